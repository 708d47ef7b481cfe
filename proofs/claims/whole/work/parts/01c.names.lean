set_option maxRecDepth 20000 in
theorem ggX4_init_X1_init : GoodIn wsX4_init wsX1_init := goodIn_r _ [23, 24, 2, 3, 25, 26, 27, 28, 29, 19, 30, 31, 32, 33, 34, 35, 55, 56, 57, 58, 59, 60, 61, 62, 63, 64, 65] (by decide +kernel) (by decide +kernel)
set_option maxRecDepth 20000 in
theorem gX4_init_X1_init : GoodIn wsX4_init (wsX1_init) := ggX4_init_X1_init
set_option maxRecDepth 20000 in
theorem ggX4_init_X3_init : GoodIn wsX4_init wsX3_init := goodIn_r _ [38, 39, 2, 3, 40, 41, 42, 43, 44, 45, 46, 73, 74, 75, 76, 77, 78] (by decide +kernel) (by decide +kernel)
set_option maxRecDepth 20000 in
theorem gX4_init_X3_init : GoodIn wsX4_init (wsX3_init) := ggX4_init_X3_init
set_option maxRecDepth 20000 in
theorem ggX4_init_X2_init : GoodIn wsX4_init wsX2_init := goodIn_r _ [49, 50, 2, 3, 51, 52, 53, 54, 79, 80, 81] (by decide +kernel) (by decide +kernel)
set_option maxRecDepth 20000 in
theorem gX4_init_X2_init : GoodIn wsX4_init (wsX2_init) := ggX4_init_X2_init
theorem dX4_init_0 : decode cX4_init 0 = .ok (.aload_n 0, 1) := by decide +kernel
theorem dX4_init_1 : decode cX4_init 1 = .ok (.invokespecial 1, 3) := by decide +kernel
theorem dX4_init_4 : decode cX4_init 4 = .ok (.aload_n 0, 1) := by decide +kernel
theorem dX4_init_5 : decode cX4_init 5 = .ok (.new 7, 3) := by decide +kernel
theorem dX4_init_8 : decode cX4_init 8 = .ok (.dup, 1) := by decide +kernel
theorem dX4_init_9 : decode cX4_init 9 = .ok (.invokespecial 9, 3) := by decide +kernel
theorem dX4_init_12 : decode cX4_init 12 = .ok (.putfield 10, 3) := by decide +kernel
theorem dX4_init_15 : decode cX4_init 15 = .ok (.aload_n 0, 1) := by decide +kernel
theorem dX4_init_16 : decode cX4_init 16 = .ok (.new 7, 3) := by decide +kernel
theorem dX4_init_19 : decode cX4_init 19 = .ok (.dup, 1) := by decide +kernel
theorem dX4_init_20 : decode cX4_init 20 = .ok (.invokespecial 9, 3) := by decide +kernel
theorem dX4_init_23 : decode cX4_init 23 = .ok (.putfield 16, 3) := by decide +kernel
theorem dX4_init_26 : decode cX4_init 26 = .ok (.aload_n 0, 1) := by decide +kernel
theorem dX4_init_27 : decode cX4_init 27 = .ok (.new 7, 3) := by decide +kernel
theorem dX4_init_30 : decode cX4_init 30 = .ok (.dup, 1) := by decide +kernel
theorem dX4_init_31 : decode cX4_init 31 = .ok (.invokespecial 9, 3) := by decide +kernel
theorem dX4_init_34 : decode cX4_init 34 = .ok (.putfield 19, 3) := by decide +kernel
theorem dX4_init_37 : decode cX4_init 37 = .ok (.aload_n 0, 1) := by decide +kernel
theorem dX4_init_38 : decode cX4_init 38 = .ok (.iconst 0, 1) := by decide +kernel
theorem dX4_init_39 : decode cX4_init 39 = .ok (.putfield 22, 3) := by decide +kernel
theorem dX4_init_42 : decode cX4_init 42 = .ok (.aload_n 0, 1) := by decide +kernel
theorem dX4_init_43 : decode cX4_init 43 = .ok (.new 26, 3) := by decide +kernel
theorem dX4_init_46 : decode cX4_init 46 = .ok (.dup, 1) := by decide +kernel
theorem dX4_init_47 : decode cX4_init 47 = .ok (.invokespecial 28, 3) := by decide +kernel
theorem dX4_init_50 : decode cX4_init 50 = .ok (.putfield 29, 3) := by decide +kernel
theorem dX4_init_53 : decode cX4_init 53 = .ok (.aload_n 0, 1) := by decide +kernel
theorem dX4_init_54 : decode cX4_init 54 = .ok (.iconst 4, 1) := by decide +kernel
theorem dX4_init_55 : decode cX4_init 55 = .ok (.anewarray 33, 3) := by decide +kernel
theorem dX4_init_58 : decode cX4_init 58 = .ok (.putfield 35, 3) := by decide +kernel
theorem dX4_init_61 : decode cX4_init 61 = .ok (.iconst 0, 1) := by decide +kernel
theorem dX4_init_62 : decode cX4_init 62 = .ok (.istore_n 1, 1) := by decide +kernel
theorem dX4_init_63 : decode cX4_init 63 = .ok (.iload_n 1, 1) := by decide +kernel
theorem dX4_init_64 : decode cX4_init 64 = .ok (.iconst 4, 1) := by decide +kernel
theorem dX4_init_65 : decode cX4_init 65 = .ok (.if_icmp .ge 22, 3) := by decide +kernel
theorem dX4_init_68 : decode cX4_init 68 = .ok (.aload_n 0, 1) := by decide +kernel
theorem dX4_init_69 : decode cX4_init 69 = .ok (.getfield 35, 3) := by decide +kernel
theorem dX4_init_72 : decode cX4_init 72 = .ok (.iload_n 1, 1) := by decide +kernel
theorem dX4_init_73 : decode cX4_init 73 = .ok (.new 33, 3) := by decide +kernel
theorem dX4_init_76 : decode cX4_init 76 = .ok (.dup, 1) := by decide +kernel
theorem dX4_init_77 : decode cX4_init 77 = .ok (.invokespecial 39, 3) := by decide +kernel
theorem dX4_init_80 : decode cX4_init 80 = .ok (.aastore, 1) := by decide +kernel
theorem dX4_init_81 : decode cX4_init 81 = .ok (.iinc 1 1, 3) := by decide +kernel
theorem dX4_init_84 : decode cX4_init 84 = .ok (.goto (-21), 3) := by decide +kernel
theorem dX4_init_87 : decode cX4_init 87 = .ok (.aload_n 0, 1) := by decide +kernel
theorem dX4_init_88 : decode cX4_init 88 = .ok (.bipush 7, 2) := by decide +kernel
theorem dX4_init_90 : decode cX4_init 90 = .ok (.newarray .int, 2) := by decide +kernel
theorem dX4_init_92 : decode cX4_init 92 = .ok (.putfield 40, 3) := by decide +kernel
theorem dX4_init_95 : decode cX4_init 95 = .ok (.return_, 1) := by decide +kernel
set_option maxRecDepth 20000 in
theorem ggX4_door_X4_isFrom : GoodIn wsX4_door wsX4_isFrom := goodIn_r _ [8] (by decide +kernel) (by decide +kernel)
set_option maxRecDepth 20000 in
theorem gX4_door_X4_isFrom : GoodIn wsX4_door (va_wsS RX4 44 yX4_isFrom wsX4_isFrom) := goodIn_app (goodIn_of _ (by decide +kernel)) ggX4_door_X4_isFrom
set_option maxRecDepth 20000 in
theorem ggX4_door_X4_found : GoodIn wsX4_door wsX4_found := goodIn_r _ [12, 4, 13, 5, 6, 7, 8, 14, 15, 16, 17, 18, 19, 20] (by decide +kernel) (by decide +kernel)
set_option maxRecDepth 20000 in
theorem gX4_door_X4_found : GoodIn wsX4_door (wsV RX4 56 RX4 yX4_found wsX4_found) := goodIn_app (goodIn_of _ (by decide +kernel)) ggX4_door_X4_found
theorem dX4_door_0 : decode cX4_door 0 = .ok (.iload_n 1, 1) := by decide +kernel
theorem dX4_door_1 : decode cX4_door 1 = .ok (.ifCond .ne 32, 3) := by decide +kernel
theorem dX4_door_4 : decode cX4_door 4 = .ok (.iconst 0, 1) := by decide +kernel
theorem dX4_door_5 : decode cX4_door 5 = .ok (.bipush 99, 2) := by decide +kernel
theorem dX4_door_7 : decode cX4_door 7 = .ok (.iload_n 2, 1) := by decide +kernel
theorem dX4_door_8 : decode cX4_door 8 = .ok (.invokestatic 44, 3) := by decide +kernel
theorem dX4_door_11 : decode cX4_door 11 = .ok (.ifCond .eq 22, 3) := by decide +kernel
theorem dX4_door_14 : decode cX4_door 14 = .ok (.aload_n 0, 1) := by decide +kernel
theorem dX4_door_15 : decode cX4_door 15 = .ok (.getfield 10, 3) := by decide +kernel
theorem dX4_door_18 : decode cX4_door 18 = .ok (.getfield 48, 3) := by decide +kernel
theorem dX4_door_21 : decode cX4_door 21 = .ok (.istore_n 3, 1) := by decide +kernel
theorem dX4_door_22 : decode cX4_door 22 = .ok (.aload_n 0, 1) := by decide +kernel
theorem dX4_door_23 : decode cX4_door 23 = .ok (.getfield 10, 3) := by decide +kernel
theorem dX4_door_26 : decode cX4_door 26 = .ok (.iload_n 2, 1) := by decide +kernel
theorem dX4_door_27 : decode cX4_door 27 = .ok (.putfield 48, 3) := by decide +kernel
theorem dX4_door_30 : decode cX4_door 30 = .ok (.goto 44, 3) := by decide +kernel
theorem dX4_door_33 : decode cX4_door 33 = .ok (.iload_n 1, 1) := by decide +kernel
theorem dX4_door_34 : decode cX4_door 34 = .ok (.iconst 1, 1) := by decide +kernel
theorem dX4_door_35 : decode cX4_door 35 = .ok (.if_icmp .ne 32, 3) := by decide +kernel
theorem dX4_door_38 : decode cX4_door 38 = .ok (.iconst 0, 1) := by decide +kernel
theorem dX4_door_39 : decode cX4_door 39 = .ok (.bipush 60, 2) := by decide +kernel
theorem dX4_door_41 : decode cX4_door 41 = .ok (.iload_n 2, 1) := by decide +kernel
theorem dX4_door_42 : decode cX4_door 42 = .ok (.invokestatic 44, 3) := by decide +kernel
theorem dX4_door_45 : decode cX4_door 45 = .ok (.ifCond .eq 22, 3) := by decide +kernel
theorem dX4_door_48 : decode cX4_door 48 = .ok (.aload_n 0, 1) := by decide +kernel
theorem dX4_door_49 : decode cX4_door 49 = .ok (.getfield 10, 3) := by decide +kernel
theorem dX4_door_52 : decode cX4_door 52 = .ok (.getfield 52, 3) := by decide +kernel
theorem dX4_door_55 : decode cX4_door 55 = .ok (.istore_n 3, 1) := by decide +kernel
theorem dX4_door_56 : decode cX4_door 56 = .ok (.aload_n 0, 1) := by decide +kernel
theorem dX4_door_57 : decode cX4_door 57 = .ok (.getfield 10, 3) := by decide +kernel
theorem dX4_door_60 : decode cX4_door 60 = .ok (.iload_n 2, 1) := by decide +kernel
theorem dX4_door_61 : decode cX4_door 61 = .ok (.putfield 52, 3) := by decide +kernel
theorem dX4_door_64 : decode cX4_door 64 = .ok (.goto 10, 3) := by decide +kernel
theorem dX4_door_67 : decode cX4_door 67 = .ok (.aload_n 0, 1) := by decide +kernel
theorem dX4_door_68 : decode cX4_door 68 = .ok (.ldc 55, 2) := by decide +kernel
theorem dX4_door_70 : decode cX4_door 70 = .ok (.invokevirtual 56, 3) := by decide +kernel
theorem dX4_door_73 : decode cX4_door 73 = .ok (.istore_n 3, 1) := by decide +kernel
theorem dX4_door_74 : decode cX4_door 74 = .ok (.iload_n 3, 1) := by decide +kernel
theorem dX4_door_75 : decode cX4_door 75 = .ok (.ireturn, 1) := by decide +kernel
set_option maxRecDepth 20000 in
theorem ggX4_now_X1_setOfIn : GoodIn wsX4_now wsX1_setOfIn := goodIn_r _ [12, 13, 14, 40, 41, 42, 43, 44, 45, 46, 47, 48, 49, 50] (by decide +kernel) (by decide +kernel)
set_option maxRecDepth 20000 in
theorem gX4_now_X1_setOfIn : GoodIn wsX4_now (wsV RX4 66 RX1 yX1_setOfIn wsX1_setOfIn) := goodIn_app (goodIn_of _ (by decide +kernel)) ggX4_now_X1_setOfIn
set_option maxRecDepth 20000 in
theorem ggX4_now_X1_setOfLoose : GoodIn wsX4_now wsX1_setOfLoose := goodIn_r _ [18, 13, 19, 14, 40, 41, 42, 43, 44, 45, 46, 47, 48, 49, 50] (by decide +kernel) (by decide +kernel)
set_option maxRecDepth 20000 in
theorem gX4_now_X1_setOfLoose : GoodIn wsX4_now (wsV RX4 70 RX1 yX1_setOfLoose wsX1_setOfLoose) := goodIn_app (goodIn_of _ (by decide +kernel)) ggX4_now_X1_setOfLoose
set_option maxRecDepth 20000 in
theorem ggX4_now_X1_sumOf : GoodIn wsX4_now wsX1_sumOf := goodIn_r _ [23, 13, 40, 41, 42, 43, 44, 45, 46, 47, 48, 49, 50] (by decide +kernel) (by decide +kernel)
set_option maxRecDepth 20000 in
theorem gX4_now_X1_sumOf : GoodIn wsX4_now (wsV RX4 76 RX1 yX1_sumOf wsX1_sumOf) := goodIn_app (goodIn_of _ (by decide +kernel)) ggX4_now_X1_sumOf
set_option maxRecDepth 20000 in
theorem ggX4_now_X4_found : GoodIn wsX4_now wsX4_found := goodIn_r _ [28, 7, 29, 30, 31, 27, 32, 33, 34, 35, 36, 37, 38, 39] (by decide +kernel) (by decide +kernel)
set_option maxRecDepth 20000 in
theorem gX4_now_X4_found : GoodIn wsX4_now (wsV RX4 56 RX4 yX4_found wsX4_found) := goodIn_app (goodIn_of _ (by decide +kernel)) ggX4_now_X4_found
theorem dX4_now_0 : decode cX4_now 0 = .ok (.iload_n 1, 1) := by decide +kernel
theorem dX4_now_1 : decode cX4_now 1 = .ok (.tableswitch 106 0 6 #[43, 51, 59, 67, 75, 83, 91], 43) := by decide +kernel
theorem dX4_now_44 : decode cX4_now 44 = .ok (.aload_n 0, 1) := by decide +kernel
theorem dX4_now_45 : decode cX4_now 45 = .ok (.getfield 10, 3) := by decide +kernel
theorem dX4_now_48 : decode cX4_now 48 = .ok (.getfield 60, 3) := by decide +kernel
theorem dX4_now_51 : decode cX4_now 51 = .ok (.ireturn, 1) := by decide +kernel
theorem dX4_now_52 : decode cX4_now 52 = .ok (.aload_n 0, 1) := by decide +kernel
theorem dX4_now_53 : decode cX4_now 53 = .ok (.getfield 10, 3) := by decide +kernel
theorem dX4_now_56 : decode cX4_now 56 = .ok (.getfield 48, 3) := by decide +kernel
theorem dX4_now_59 : decode cX4_now 59 = .ok (.ireturn, 1) := by decide +kernel
theorem dX4_now_60 : decode cX4_now 60 = .ok (.aload_n 0, 1) := by decide +kernel
theorem dX4_now_61 : decode cX4_now 61 = .ok (.getfield 10, 3) := by decide +kernel
theorem dX4_now_64 : decode cX4_now 64 = .ok (.getfield 52, 3) := by decide +kernel
theorem dX4_now_67 : decode cX4_now 67 = .ok (.ireturn, 1) := by decide +kernel
theorem dX4_now_68 : decode cX4_now 68 = .ok (.aload_n 0, 1) := by decide +kernel
theorem dX4_now_69 : decode cX4_now 69 = .ok (.getfield 10, 3) := by decide +kernel
theorem dX4_now_72 : decode cX4_now 72 = .ok (.getfield 63, 3) := by decide +kernel
theorem dX4_now_75 : decode cX4_now 75 = .ok (.ireturn, 1) := by decide +kernel
theorem dX4_now_76 : decode cX4_now 76 = .ok (.aload_n 0, 1) := by decide +kernel
theorem dX4_now_77 : decode cX4_now 77 = .ok (.getfield 10, 3) := by decide +kernel
theorem dX4_now_80 : decode cX4_now 80 = .ok (.invokevirtual 66, 3) := by decide +kernel
theorem dX4_now_83 : decode cX4_now 83 = .ok (.ireturn, 1) := by decide +kernel
theorem dX4_now_84 : decode cX4_now 84 = .ok (.aload_n 0, 1) := by decide +kernel
theorem dX4_now_85 : decode cX4_now 85 = .ok (.getfield 10, 3) := by decide +kernel
theorem dX4_now_88 : decode cX4_now 88 = .ok (.invokevirtual 70, 3) := by decide +kernel
theorem dX4_now_91 : decode cX4_now 91 = .ok (.ireturn, 1) := by decide +kernel
theorem dX4_now_92 : decode cX4_now 92 = .ok (.aload_n 0, 1) := by decide +kernel
theorem dX4_now_93 : decode cX4_now 93 = .ok (.getfield 10, 3) := by decide +kernel
theorem dX4_now_96 : decode cX4_now 96 = .ok (.aload_n 0, 1) := by decide +kernel
theorem dX4_now_97 : decode cX4_now 97 = .ok (.getfield 10, 3) := by decide +kernel
theorem dX4_now_100 : decode cX4_now 100 = .ok (.getfield 73, 3) := by decide +kernel
theorem dX4_now_103 : decode cX4_now 103 = .ok (.invokevirtual 76, 3) := by decide +kernel
theorem dX4_now_106 : decode cX4_now 106 = .ok (.ireturn, 1) := by decide +kernel
theorem dX4_now_107 : decode cX4_now 107 = .ok (.aload_n 0, 1) := by decide +kernel
theorem dX4_now_108 : decode cX4_now 108 = .ok (.ldc 55, 2) := by decide +kernel
theorem dX4_now_110 : decode cX4_now 110 = .ok (.invokevirtual 56, 3) := by decide +kernel
theorem dX4_now_113 : decode cX4_now 113 = .ok (.ireturn, 1) := by decide +kernel
set_option maxRecDepth 20000 in
theorem ggX4_person_X0_isKind : GoodIn wsX4_person wsX0_isKind := goodIn_r _ [7] (by decide +kernel) (by decide +kernel)
set_option maxRecDepth 20000 in
theorem gX4_person_X0_isKind : GoodIn wsX4_person (va_wsS RX4 80 yX0_isKind wsX0_isKind) := goodIn_app (goodIn_of _ (by decide +kernel)) ggX4_person_X0_isKind
set_option maxRecDepth 20000 in
theorem ggX4_person_X4_isFrom : GoodIn wsX4_person wsX4_isFrom := goodIn_r _ [11] (by decide +kernel) (by decide +kernel)
set_option maxRecDepth 20000 in
theorem gX4_person_X4_isFrom : GoodIn wsX4_person (va_wsS RX4 44 yX4_isFrom wsX4_isFrom) := goodIn_app (goodIn_of _ (by decide +kernel)) ggX4_person_X4_isFrom
set_option maxRecDepth 20000 in
theorem ggX4_person_X4_found : GoodIn wsX4_person wsX4_found := goodIn_r _ [15, 1, 16, 8, 9, 10, 11, 33, 34, 35, 36, 37, 38, 39] (by decide +kernel) (by decide +kernel)
set_option maxRecDepth 20000 in
theorem gX4_person_X4_found : GoodIn wsX4_person (wsV RX4 56 RX4 yX4_found wsX4_found) := goodIn_app (goodIn_of _ (by decide +kernel)) ggX4_person_X4_found
set_option maxRecDepth 20000 in
theorem ggX4_person_X1_isFull : GoodIn wsX4_person wsX1_isFull := goodIn_r _ [21, 22, 40, 41, 42, 43, 44, 45, 46, 47, 48, 49, 50] (by decide +kernel) (by decide +kernel)
set_option maxRecDepth 20000 in
theorem gX4_person_X1_isFull : GoodIn wsX4_person (wsV RX4 86 RX1 yX1_isFull wsX1_isFull) := goodIn_app (goodIn_of _ (by decide +kernel)) ggX4_person_X1_isFull
set_option maxRecDepth 20000 in
theorem ggX4_person_X1_add : GoodIn wsX4_person wsX1_add := goodIn_r _ [26, 22, 27, 28, 29, 30, 31, 32, 40, 41, 42, 43, 44, 45, 46, 47, 48, 49, 50] (by decide +kernel) (by decide +kernel)
set_option maxRecDepth 20000 in
theorem gX4_person_X1_add : GoodIn wsX4_person (wsV RX4 91 RX1 yX1_add wsX1_add) := goodIn_app (goodIn_of _ (by decide +kernel)) ggX4_person_X1_add
theorem dX4_person_0 : decode cX4_person 0 = .ok (.iload_n 1, 1) := by decide +kernel
theorem dX4_person_1 : decode cX4_person 1 = .ok (.invokestatic 80, 3) := by decide +kernel
theorem dX4_person_4 : decode cX4_person 4 = .ok (.ifCond .eq 14, 3) := by decide +kernel
theorem dX4_person_7 : decode cX4_person 7 = .ok (.iconst 0, 1) := by decide +kernel
theorem dX4_person_8 : decode cX4_person 8 = .ok (.sipush 999, 3) := by decide +kernel
theorem dX4_person_11 : decode cX4_person 11 = .ok (.iload_n 2, 1) := by decide +kernel
theorem dX4_person_12 : decode cX4_person 12 = .ok (.invokestatic 44, 3) := by decide +kernel
theorem dX4_person_15 : decode cX4_person 15 = .ok (.ifCond .ne 10, 3) := by decide +kernel
theorem dX4_person_18 : decode cX4_person 18 = .ok (.aload_n 0, 1) := by decide +kernel
theorem dX4_person_19 : decode cX4_person 19 = .ok (.ldc 55, 2) := by decide +kernel
theorem dX4_person_21 : decode cX4_person 21 = .ok (.invokevirtual 56, 3) := by decide +kernel
theorem dX4_person_24 : decode cX4_person 24 = .ok (.ireturn, 1) := by decide +kernel
theorem dX4_person_25 : decode cX4_person 25 = .ok (.aload_n 0, 1) := by decide +kernel
theorem dX4_person_26 : decode cX4_person 26 = .ok (.getfield 10, 3) := by decide +kernel
theorem dX4_person_29 : decode cX4_person 29 = .ok (.invokevirtual 86, 3) := by decide +kernel
theorem dX4_person_32 : decode cX4_person 32 = .ok (.ifCond .eq 10, 3) := by decide +kernel
theorem dX4_person_35 : decode cX4_person 35 = .ok (.aload_n 0, 1) := by decide +kernel
theorem dX4_person_36 : decode cX4_person 36 = .ok (.ldc 90, 2) := by decide +kernel
theorem dX4_person_38 : decode cX4_person 38 = .ok (.invokevirtual 56, 3) := by decide +kernel
theorem dX4_person_41 : decode cX4_person 41 = .ok (.ireturn, 1) := by decide +kernel
theorem dX4_person_42 : decode cX4_person 42 = .ok (.aload_n 0, 1) := by decide +kernel
theorem dX4_person_43 : decode cX4_person 43 = .ok (.getfield 10, 3) := by decide +kernel
theorem dX4_person_46 : decode cX4_person 46 = .ok (.iload_n 1, 1) := by decide +kernel
theorem dX4_person_47 : decode cX4_person 47 = .ok (.iload_n 2, 1) := by decide +kernel
theorem dX4_person_48 : decode cX4_person 48 = .ok (.invokevirtual 91, 3) := by decide +kernel
theorem dX4_person_51 : decode cX4_person 51 = .ok (.ireturn, 1) := by decide +kernel
set_option maxRecDepth 20000 in
theorem ggX4_of_X4_isPerson : GoodIn wsX4_of wsX4_isPerson := goodIn_r _ [7, 2, 8, 9, 10, 6, 11, 44, 45, 46, 47, 48, 49, 50, 51, 52, 53, 54, 55, 56, 57, 58, 59, 60, 61] (by decide +kernel) (by decide +kernel)
set_option maxRecDepth 20000 in
theorem gX4_of_X4_isPerson : GoodIn wsX4_of (wsV RX4 95 RX4 yX4_isPerson wsX4_isPerson) := goodIn_app (goodIn_of _ (by decide +kernel)) ggX4_of_X4_isPerson
set_option maxRecDepth 20000 in
theorem ggX4_of_X4_found : GoodIn wsX4_of wsX4_found := goodIn_r _ [15, 1, 16, 9, 10, 6, 11, 44, 45, 46, 47, 48, 49, 50] (by decide +kernel) (by decide +kernel)
set_option maxRecDepth 20000 in
theorem gX4_of_X4_found : GoodIn wsX4_of (wsV RX4 56 RX4 yX4_found wsX4_found) := goodIn_app (goodIn_of _ (by decide +kernel)) ggX4_of_X4_found
set_option maxRecDepth 20000 in
theorem ggX4_of_X1_goesNow : GoodIn wsX4_of wsX1_goesNow := goodIn_r _ [21, 22, 23, 24, 25, 26, 27, 28, 29, 30, 31, 32, 33, 34, 35, 51, 52, 53, 54, 55, 56, 57, 58, 59, 60, 61] (by decide +kernel) (by decide +kernel)
set_option maxRecDepth 20000 in
theorem gX4_of_X1_goesNow : GoodIn wsX4_of (wsV RX4 98 RX1 yX1_goesNow wsX1_goesNow) := goodIn_app (goodIn_of _ (by decide +kernel)) ggX4_of_X1_goesNow
set_option maxRecDepth 20000 in
theorem ggX4_of_X1_rowOf : GoodIn wsX4_of wsX1_rowOf := goodIn_r _ [39, 22, 40, 23, 41, 42, 43, 51, 52, 53, 54, 55, 56, 57, 58, 59, 60, 61] (by decide +kernel) (by decide +kernel)
set_option maxRecDepth 20000 in
theorem gX4_of_X1_rowOf : GoodIn wsX4_of (wsV RX4 101 RX1 yX1_rowOf wsX1_rowOf) := goodIn_app (goodIn_of _ (by decide +kernel)) ggX4_of_X1_rowOf
theorem dX4_of_0 : decode cX4_of 0 = .ok (.aload_n 0, 1) := by decide +kernel
theorem dX4_of_1 : decode cX4_of 1 = .ok (.iload_n 1, 1) := by decide +kernel
theorem dX4_of_2 : decode cX4_of 2 = .ok (.invokevirtual 95, 3) := by decide +kernel
theorem dX4_of_5 : decode cX4_of 5 = .ok (.ifCond .ne 10, 3) := by decide +kernel
theorem dX4_of_8 : decode cX4_of 8 = .ok (.aload_n 0, 1) := by decide +kernel
theorem dX4_of_9 : decode cX4_of 9 = .ok (.ldc 55, 2) := by decide +kernel
theorem dX4_of_11 : decode cX4_of 11 = .ok (.invokevirtual 56, 3) := by decide +kernel
theorem dX4_of_14 : decode cX4_of 14 = .ok (.ireturn, 1) := by decide +kernel
theorem dX4_of_15 : decode cX4_of 15 = .ok (.iload_n 2, 1) := by decide +kernel
theorem dX4_of_16 : decode cX4_of 16 = .ok (.bipush 6, 2) := by decide +kernel
theorem dX4_of_18 : decode cX4_of 18 = .ok (.if_icmp .ne 12, 3) := by decide +kernel
theorem dX4_of_21 : decode cX4_of 21 = .ok (.aload_n 0, 1) := by decide +kernel
theorem dX4_of_22 : decode cX4_of 22 = .ok (.getfield 10, 3) := by decide +kernel
theorem dX4_of_25 : decode cX4_of 25 = .ok (.iload_n 1, 1) := by decide +kernel
theorem dX4_of_26 : decode cX4_of 26 = .ok (.invokevirtual 98, 3) := by decide +kernel
theorem dX4_of_29 : decode cX4_of 29 = .ok (.ireturn, 1) := by decide +kernel
theorem dX4_of_30 : decode cX4_of 30 = .ok (.aload_n 0, 1) := by decide +kernel
theorem dX4_of_31 : decode cX4_of 31 = .ok (.getfield 10, 3) := by decide +kernel
theorem dX4_of_34 : decode cX4_of 34 = .ok (.iload_n 2, 1) := by decide +kernel
theorem dX4_of_35 : decode cX4_of 35 = .ok (.invokevirtual 101, 3) := by decide +kernel
theorem dX4_of_38 : decode cX4_of 38 = .ok (.astore_n 3, 1) := by decide +kernel
theorem dX4_of_39 : decode cX4_of 39 = .ok (.aload_n 3, 1) := by decide +kernel
theorem dX4_of_40 : decode cX4_of 40 = .ok (.ifnonnull 12, 3) := by decide +kernel
theorem dX4_of_43 : decode cX4_of 43 = .ok (.aload_n 0, 1) := by decide +kernel
theorem dX4_of_44 : decode cX4_of 44 = .ok (.ldc 55, 2) := by decide +kernel
theorem dX4_of_46 : decode cX4_of 46 = .ok (.invokevirtual 56, 3) := by decide +kernel
theorem dX4_of_49 : decode cX4_of 49 = .ok (.goto 6, 3) := by decide +kernel
theorem dX4_of_52 : decode cX4_of 52 = .ok (.aload_n 3, 1) := by decide +kernel
theorem dX4_of_53 : decode cX4_of 53 = .ok (.iload_n 1, 1) := by decide +kernel
theorem dX4_of_54 : decode cX4_of 54 = .ok (.iaload, 1) := by decide +kernel
theorem dX4_of_55 : decode cX4_of 55 = .ok (.ireturn, 1) := by decide +kernel
set_option maxRecDepth 20000 in
theorem ggX4_set_X1_rowOf : GoodIn wsX4_set wsX1_rowOf := goodIn_r _ [7, 8, 9, 10, 11, 12, 13, 38, 39, 40, 41, 42, 43, 44, 45, 46, 47, 48] (by decide +kernel) (by decide +kernel)
set_option maxRecDepth 20000 in
theorem gX4_set_X1_rowOf : GoodIn wsX4_set (wsV RX4 101 RX1 yX1_rowOf wsX1_rowOf) := goodIn_app (goodIn_of _ (by decide +kernel)) ggX4_set_X1_rowOf
set_option maxRecDepth 20000 in
theorem ggX4_set_X4_isPerson : GoodIn wsX4_set wsX4_isPerson := goodIn_r _ [18, 1, 19, 20, 21, 17, 22, 31, 32, 33, 34, 35, 36, 37, 38, 39, 40, 41, 42, 43, 44, 45, 46, 47, 48] (by decide +kernel) (by decide +kernel)
set_option maxRecDepth 20000 in
theorem gX4_set_X4_isPerson : GoodIn wsX4_set (wsV RX4 95 RX4 yX4_isPerson wsX4_isPerson) := goodIn_app (goodIn_of _ (by decide +kernel)) ggX4_set_X4_isPerson
set_option maxRecDepth 20000 in
theorem ggX4_set_X4_mostOf : GoodIn wsX4_set wsX4_mostOf := goodIn_r _ [25] (by decide +kernel) (by decide +kernel)
set_option maxRecDepth 20000 in
theorem gX4_set_X4_mostOf : GoodIn wsX4_set (va_wsS RX4 105 yX4_mostOf wsX4_mostOf) := goodIn_app (goodIn_of _ (by decide +kernel)) ggX4_set_X4_mostOf
set_option maxRecDepth 20000 in
theorem ggX4_set_X4_isFrom : GoodIn wsX4_set wsX4_isFrom := goodIn_r _ [22] (by decide +kernel) (by decide +kernel)
set_option maxRecDepth 20000 in
theorem gX4_set_X4_isFrom : GoodIn wsX4_set (va_wsS RX4 44 yX4_isFrom wsX4_isFrom) := goodIn_app (goodIn_of _ (by decide +kernel)) ggX4_set_X4_isFrom
set_option maxRecDepth 20000 in
theorem ggX4_set_X4_found : GoodIn wsX4_set wsX4_found := goodIn_r _ [29, 2, 30, 20, 21, 17, 22, 31, 32, 33, 34, 35, 36, 37] (by decide +kernel) (by decide +kernel)
set_option maxRecDepth 20000 in
theorem gX4_set_X4_found : GoodIn wsX4_set (wsV RX4 56 RX4 yX4_found wsX4_found) := goodIn_app (goodIn_of _ (by decide +kernel)) ggX4_set_X4_found
theorem dX4_set_0 : decode cX4_set 0 = .ok (.aload_n 0, 1) := by decide +kernel
theorem dX4_set_1 : decode cX4_set 1 = .ok (.getfield 10, 3) := by decide +kernel
theorem dX4_set_4 : decode cX4_set 4 = .ok (.iload_n 2, 1) := by decide +kernel
theorem dX4_set_5 : decode cX4_set 5 = .ok (.invokevirtual 101, 3) := by decide +kernel
theorem dX4_set_8 : decode cX4_set 8 = .ok (.astore 4, 2) := by decide +kernel
theorem dX4_set_10 : decode cX4_set 10 = .ok (.aload_n 0, 1) := by decide +kernel
theorem dX4_set_11 : decode cX4_set 11 = .ok (.iload_n 1, 1) := by decide +kernel
theorem dX4_set_12 : decode cX4_set 12 = .ok (.invokevirtual 95, 3) := by decide +kernel
theorem dX4_set_15 : decode cX4_set 15 = .ok (.ifCond .eq 24, 3) := by decide +kernel
theorem dX4_set_18 : decode cX4_set 18 = .ok (.aload 4, 2) := by decide +kernel
theorem dX4_set_20 : decode cX4_set 20 = .ok (.ifnull 19, 3) := by decide +kernel
theorem dX4_set_23 : decode cX4_set 23 = .ok (.iload_n 2, 1) := by decide +kernel
theorem dX4_set_24 : decode cX4_set 24 = .ok (.ifCond .eq 15, 3) := by decide +kernel
theorem dX4_set_27 : decode cX4_set 27 = .ok (.iconst 0, 1) := by decide +kernel
theorem dX4_set_28 : decode cX4_set 28 = .ok (.iload_n 2, 1) := by decide +kernel
theorem dX4_set_29 : decode cX4_set 29 = .ok (.invokestatic 105, 3) := by decide +kernel
theorem dX4_set_32 : decode cX4_set 32 = .ok (.iload_n 3, 1) := by decide +kernel
theorem dX4_set_33 : decode cX4_set 33 = .ok (.invokestatic 44, 3) := by decide +kernel
theorem dX4_set_36 : decode cX4_set 36 = .ok (.ifCond .ne 10, 3) := by decide +kernel
theorem dX4_set_39 : decode cX4_set 39 = .ok (.aload_n 0, 1) := by decide +kernel
theorem dX4_set_40 : decode cX4_set 40 = .ok (.ldc 55, 2) := by decide +kernel
theorem dX4_set_42 : decode cX4_set 42 = .ok (.invokevirtual 56, 3) := by decide +kernel
theorem dX4_set_45 : decode cX4_set 45 = .ok (.ireturn, 1) := by decide +kernel
theorem dX4_set_46 : decode cX4_set 46 = .ok (.aload 4, 2) := by decide +kernel
theorem dX4_set_48 : decode cX4_set 48 = .ok (.iload_n 1, 1) := by decide +kernel
theorem dX4_set_49 : decode cX4_set 49 = .ok (.iaload, 1) := by decide +kernel
theorem dX4_set_50 : decode cX4_set 50 = .ok (.istore 5, 2) := by decide +kernel
theorem dX4_set_52 : decode cX4_set 52 = .ok (.aload 4, 2) := by decide +kernel
theorem dX4_set_54 : decode cX4_set 54 = .ok (.iload_n 1, 1) := by decide +kernel
theorem dX4_set_55 : decode cX4_set 55 = .ok (.iload_n 3, 1) := by decide +kernel
theorem dX4_set_56 : decode cX4_set 56 = .ok (.iastore, 1) := by decide +kernel
theorem dX4_set_57 : decode cX4_set 57 = .ok (.iload 5, 2) := by decide +kernel
theorem dX4_set_59 : decode cX4_set 59 = .ok (.ireturn, 1) := by decide +kernel
set_option maxRecDepth 20000 in
theorem ggX4_turn_X4_isPerson : GoodIn wsX4_turn wsX4_isPerson := goodIn_r _ [8, 2, 9, 10, 11, 7, 12, 22, 23, 24, 25, 26, 27, 28, 29, 30, 31, 32, 33, 34, 35, 36, 37, 38, 39] (by decide +kernel) (by decide +kernel)
set_option maxRecDepth 20000 in
theorem gX4_turn_X4_isPerson : GoodIn wsX4_turn (wsV RX4 95 RX4 yX4_isPerson wsX4_isPerson) := goodIn_app (goodIn_of _ (by decide +kernel)) ggX4_turn_X4_isPerson
set_option maxRecDepth 20000 in
theorem ggX4_turn_X0_isKind : GoodIn wsX4_turn wsX0_isKind := goodIn_r _ [16] (by decide +kernel) (by decide +kernel)
set_option maxRecDepth 20000 in
theorem gX4_turn_X0_isKind : GoodIn wsX4_turn (va_wsS RX4 80 yX0_isKind wsX0_isKind) := goodIn_app (goodIn_of _ (by decide +kernel)) ggX4_turn_X0_isKind
set_option maxRecDepth 20000 in
theorem ggX4_turn_X4_found : GoodIn wsX4_turn wsX4_found := goodIn_r _ [20, 1, 21, 10, 11, 7, 12, 22, 23, 24, 25, 26, 27, 28] (by decide +kernel) (by decide +kernel)
set_option maxRecDepth 20000 in
theorem gX4_turn_X4_found : GoodIn wsX4_turn (wsV RX4 56 RX4 yX4_found wsX4_found) := goodIn_app (goodIn_of _ (by decide +kernel)) ggX4_turn_X4_found
theorem dX4_turn_0 : decode cX4_turn 0 = .ok (.aload_n 0, 1) := by decide +kernel
theorem dX4_turn_1 : decode cX4_turn 1 = .ok (.iload_n 1, 1) := by decide +kernel
theorem dX4_turn_2 : decode cX4_turn 2 = .ok (.invokevirtual 95, 3) := by decide +kernel
theorem dX4_turn_5 : decode cX4_turn 5 = .ok (.ifCond .eq 10, 3) := by decide +kernel
theorem dX4_turn_8 : decode cX4_turn 8 = .ok (.iload_n 2, 1) := by decide +kernel
theorem dX4_turn_9 : decode cX4_turn 9 = .ok (.invokestatic 80, 3) := by decide +kernel
theorem dX4_turn_12 : decode cX4_turn 12 = .ok (.ifCond .ne 10, 3) := by decide +kernel
theorem dX4_turn_15 : decode cX4_turn 15 = .ok (.aload_n 0, 1) := by decide +kernel
theorem dX4_turn_16 : decode cX4_turn 16 = .ok (.ldc 55, 2) := by decide +kernel
theorem dX4_turn_18 : decode cX4_turn 18 = .ok (.invokevirtual 56, 3) := by decide +kernel
theorem dX4_turn_21 : decode cX4_turn 21 = .ok (.ireturn, 1) := by decide +kernel
theorem dX4_turn_22 : decode cX4_turn 22 = .ok (.aload_n 0, 1) := by decide +kernel
theorem dX4_turn_23 : decode cX4_turn 23 = .ok (.getfield 10, 3) := by decide +kernel
theorem dX4_turn_26 : decode cX4_turn 26 = .ok (.getfield 108, 3) := by decide +kernel
theorem dX4_turn_29 : decode cX4_turn 29 = .ok (.iload_n 1, 1) := by decide +kernel
theorem dX4_turn_30 : decode cX4_turn 30 = .ok (.iaload, 1) := by decide +kernel
theorem dX4_turn_31 : decode cX4_turn 31 = .ok (.istore_n 3, 1) := by decide +kernel
theorem dX4_turn_32 : decode cX4_turn 32 = .ok (.aload_n 0, 1) := by decide +kernel
theorem dX4_turn_33 : decode cX4_turn 33 = .ok (.getfield 10, 3) := by decide +kernel
theorem dX4_turn_36 : decode cX4_turn 36 = .ok (.getfield 108, 3) := by decide +kernel
theorem dX4_turn_39 : decode cX4_turn 39 = .ok (.iload_n 1, 1) := by decide +kernel
theorem dX4_turn_40 : decode cX4_turn 40 = .ok (.iload_n 2, 1) := by decide +kernel
theorem dX4_turn_41 : decode cX4_turn 41 = .ok (.iastore, 1) := by decide +kernel
theorem dX4_turn_42 : decode cX4_turn 42 = .ok (.iload_n 3, 1) := by decide +kernel
theorem dX4_turn_43 : decode cX4_turn 43 = .ok (.ireturn, 1) := by decide +kernel
set_option maxRecDepth 20000 in
theorem ggX4_as_X4_isPerson : GoodIn wsX4_as wsX4_isPerson := goodIn_r _ [10, 2, 11, 12, 13, 9, 14, 30, 31, 32, 33, 34, 35, 36, 37, 38, 39, 40, 41, 42, 43, 44, 45, 46, 47] (by decide +kernel) (by decide +kernel)
set_option maxRecDepth 20000 in
theorem gX4_as_X4_isPerson : GoodIn wsX4_as (wsV RX4 95 RX4 yX4_isPerson wsX4_isPerson) := goodIn_app (goodIn_of _ (by decide +kernel)) ggX4_as_X4_isPerson
set_option maxRecDepth 20000 in
theorem ggX4_as_X0_isKind : GoodIn wsX4_as wsX0_isKind := goodIn_r _ [18] (by decide +kernel) (by decide +kernel)
set_option maxRecDepth 20000 in
theorem gX4_as_X0_isKind : GoodIn wsX4_as (va_wsS RX4 80 yX0_isKind wsX0_isKind) := goodIn_app (goodIn_of _ (by decide +kernel)) ggX4_as_X0_isKind
set_option maxRecDepth 20000 in
theorem ggX4_as_X4_found : GoodIn wsX4_as wsX4_found := goodIn_r _ [22, 1, 23, 12, 13, 9, 14, 30, 31, 32, 33, 34, 35, 36] (by decide +kernel) (by decide +kernel)
set_option maxRecDepth 20000 in
theorem gX4_as_X4_found : GoodIn wsX4_as (wsV RX4 56 RX4 yX4_found wsX4_found) := goodIn_app (goodIn_of _ (by decide +kernel)) ggX4_as_X4_found
set_option maxRecDepth 20000 in
theorem ggX4_as_X0_isUnder : GoodIn wsX4_as wsX0_isUnder := goodIn_r _ [26, 27, 28, 17, 29] (by decide +kernel) (by decide +kernel)
set_option maxRecDepth 20000 in
theorem gX4_as_X0_isUnder : GoodIn wsX4_as (va_wsS RX4 111 yX0_isUnder wsX0_isUnder) := goodIn_app (goodIn_of _ (by decide +kernel)) ggX4_as_X0_isUnder
theorem dX4_as_0 : decode cX4_as 0 = .ok (.aload_n 0, 1) := by decide +kernel
theorem dX4_as_1 : decode cX4_as 1 = .ok (.iload_n 1, 1) := by decide +kernel
theorem dX4_as_2 : decode cX4_as 2 = .ok (.invokevirtual 95, 3) := by decide +kernel
theorem dX4_as_5 : decode cX4_as 5 = .ok (.ifCond .eq 10, 3) := by decide +kernel
theorem dX4_as_8 : decode cX4_as 8 = .ok (.iload_n 2, 1) := by decide +kernel
theorem dX4_as_9 : decode cX4_as 9 = .ok (.invokestatic 80, 3) := by decide +kernel
theorem dX4_as_12 : decode cX4_as 12 = .ok (.ifCond .ne 10, 3) := by decide +kernel
theorem dX4_as_15 : decode cX4_as 15 = .ok (.aload_n 0, 1) := by decide +kernel
theorem dX4_as_16 : decode cX4_as 16 = .ok (.ldc 55, 2) := by decide +kernel
theorem dX4_as_18 : decode cX4_as 18 = .ok (.invokevirtual 56, 3) := by decide +kernel
theorem dX4_as_21 : decode cX4_as 21 = .ok (.ireturn, 1) := by decide +kernel
theorem dX4_as_22 : decode cX4_as 22 = .ok (.aload_n 0, 1) := by decide +kernel
theorem dX4_as_23 : decode cX4_as 23 = .ok (.getfield 10, 3) := by decide +kernel
theorem dX4_as_26 : decode cX4_as 26 = .ok (.getfield 108, 3) := by decide +kernel
theorem dX4_as_29 : decode cX4_as 29 = .ok (.iload_n 1, 1) := by decide +kernel
theorem dX4_as_30 : decode cX4_as 30 = .ok (.iaload, 1) := by decide +kernel
theorem dX4_as_31 : decode cX4_as 31 = .ok (.iload_n 2, 1) := by decide +kernel
theorem dX4_as_32 : decode cX4_as 32 = .ok (.invokestatic 111, 3) := by decide +kernel
theorem dX4_as_35 : decode cX4_as 35 = .ok (.ifCond .ne 10, 3) := by decide +kernel
theorem dX4_as_38 : decode cX4_as 38 = .ok (.aload_n 0, 1) := by decide +kernel
theorem dX4_as_39 : decode cX4_as 39 = .ok (.ldc 115, 2) := by decide +kernel
theorem dX4_as_41 : decode cX4_as 41 = .ok (.invokevirtual 56, 3) := by decide +kernel
theorem dX4_as_44 : decode cX4_as 44 = .ok (.ireturn, 1) := by decide +kernel
theorem dX4_as_45 : decode cX4_as 45 = .ok (.aload_n 0, 1) := by decide +kernel
theorem dX4_as_46 : decode cX4_as 46 = .ok (.getfield 10, 3) := by decide +kernel
theorem dX4_as_49 : decode cX4_as 49 = .ok (.getfield 116, 3) := by decide +kernel
theorem dX4_as_52 : decode cX4_as 52 = .ok (.iload_n 1, 1) := by decide +kernel
theorem dX4_as_53 : decode cX4_as 53 = .ok (.iaload, 1) := by decide +kernel
theorem dX4_as_54 : decode cX4_as 54 = .ok (.ireturn, 1) := by decide +kernel
set_option maxRecDepth 20000 in
theorem ggX4_holds_X4_isPair : GoodIn wsX4_holds wsX4_isPair := goodIn_r _ [7, 8, 9, 10, 6, 11, 2, 12, 13, 14, 15, 34, 35, 36, 37, 38, 39, 40, 41, 42, 43, 44, 45, 46, 47, 48, 49, 50, 51] (by decide +kernel) (by decide +kernel)
set_option maxRecDepth 20000 in
theorem gX4_holds_X4_isPair : GoodIn wsX4_holds (wsV RX4 119 RX4 yX4_isPair wsX4_isPair) := goodIn_app (goodIn_of _ (by decide +kernel)) ggX4_holds_X4_isPair
set_option maxRecDepth 20000 in
theorem ggX4_holds_X4_found : GoodIn wsX4_holds wsX4_found := goodIn_r _ [19, 1, 20, 13, 14, 6, 15, 34, 35, 36, 37, 38, 39, 40] (by decide +kernel) (by decide +kernel)
set_option maxRecDepth 20000 in
theorem gX4_holds_X4_found : GoodIn wsX4_holds (wsV RX4 56 RX4 yX4_found wsX4_found) := goodIn_app (goodIn_of _ (by decide +kernel)) ggX4_holds_X4_found
set_option maxRecDepth 20000 in
theorem ggX4_holds_X1_holdsFor : GoodIn wsX4_holds wsX1_holdsFor := goodIn_r _ [25, 26, 27, 28, 29, 30, 31, 32, 33, 41, 42, 43, 44, 45, 46, 47, 48, 49, 50, 51] (by decide +kernel) (by decide +kernel)
set_option maxRecDepth 20000 in
theorem gX4_holds_X1_holdsFor : GoodIn wsX4_holds (wsV RX4 122 RX1 yX1_holdsFor wsX1_holdsFor) := goodIn_app (goodIn_of _ (by decide +kernel)) ggX4_holds_X1_holdsFor
theorem dX4_holds_0 : decode cX4_holds 0 = .ok (.aload_n 0, 1) := by decide +kernel
theorem dX4_holds_1 : decode cX4_holds 1 = .ok (.iload_n 1, 1) := by decide +kernel
theorem dX4_holds_2 : decode cX4_holds 2 = .ok (.iload_n 2, 1) := by decide +kernel
theorem dX4_holds_3 : decode cX4_holds 3 = .ok (.invokevirtual 119, 3) := by decide +kernel
theorem dX4_holds_6 : decode cX4_holds 6 = .ok (.ifCond .ne 10, 3) := by decide +kernel
theorem dX4_holds_9 : decode cX4_holds 9 = .ok (.aload_n 0, 1) := by decide +kernel
theorem dX4_holds_10 : decode cX4_holds 10 = .ok (.ldc 55, 2) := by decide +kernel
theorem dX4_holds_12 : decode cX4_holds 12 = .ok (.invokevirtual 56, 3) := by decide +kernel
theorem dX4_holds_15 : decode cX4_holds 15 = .ok (.ireturn, 1) := by decide +kernel
theorem dX4_holds_16 : decode cX4_holds 16 = .ok (.aload_n 0, 1) := by decide +kernel
theorem dX4_holds_17 : decode cX4_holds 17 = .ok (.getfield 10, 3) := by decide +kernel
theorem dX4_holds_20 : decode cX4_holds 20 = .ok (.iload_n 1, 1) := by decide +kernel
theorem dX4_holds_21 : decode cX4_holds 21 = .ok (.iload_n 2, 1) := by decide +kernel
theorem dX4_holds_22 : decode cX4_holds 22 = .ok (.invokevirtual 122, 3) := by decide +kernel
theorem dX4_holds_25 : decode cX4_holds 25 = .ok (.ireturn, 1) := by decide +kernel
set_option maxRecDepth 20000 in
theorem ggX4_asks_X4_isPair : GoodIn wsX4_asks wsX4_isPair := goodIn_r _ [7, 8, 9, 10, 6, 11, 2, 12, 13, 14, 15, 33, 34, 35, 36, 37, 38, 39, 40, 41, 42, 43, 44, 45, 46, 47, 48, 49, 50] (by decide +kernel) (by decide +kernel)
set_option maxRecDepth 20000 in
theorem gX4_asks_X4_isPair : GoodIn wsX4_asks (wsV RX4 119 RX4 yX4_isPair wsX4_isPair) := goodIn_app (goodIn_of _ (by decide +kernel)) ggX4_asks_X4_isPair
set_option maxRecDepth 20000 in
theorem ggX4_asks_X4_found : GoodIn wsX4_asks wsX4_found := goodIn_r _ [19, 1, 20, 13, 14, 6, 15, 33, 34, 35, 36, 37, 38, 39] (by decide +kernel) (by decide +kernel)
set_option maxRecDepth 20000 in
theorem gX4_asks_X4_found : GoodIn wsX4_asks (wsV RX4 56 RX4 yX4_found wsX4_found) := goodIn_app (goodIn_of _ (by decide +kernel)) ggX4_asks_X4_found
set_option maxRecDepth 20000 in
theorem ggX4_asks_X1_isAsking : GoodIn wsX4_asks wsX1_isAsking := goodIn_r _ [25, 26, 27, 28, 29, 30, 31, 32, 40, 41, 42, 43, 44, 45, 46, 47, 48, 49, 50] (by decide +kernel) (by decide +kernel)
set_option maxRecDepth 20000 in
theorem gX4_asks_X1_isAsking : GoodIn wsX4_asks (wsV RX4 125 RX1 yX1_isAsking wsX1_isAsking) := goodIn_app (goodIn_of _ (by decide +kernel)) ggX4_asks_X1_isAsking
theorem dX4_asks_0 : decode cX4_asks 0 = .ok (.aload_n 0, 1) := by decide +kernel
theorem dX4_asks_1 : decode cX4_asks 1 = .ok (.iload_n 1, 1) := by decide +kernel
theorem dX4_asks_2 : decode cX4_asks 2 = .ok (.iload_n 2, 1) := by decide +kernel
theorem dX4_asks_3 : decode cX4_asks 3 = .ok (.invokevirtual 119, 3) := by decide +kernel
theorem dX4_asks_6 : decode cX4_asks 6 = .ok (.ifCond .ne 10, 3) := by decide +kernel
theorem dX4_asks_9 : decode cX4_asks 9 = .ok (.aload_n 0, 1) := by decide +kernel
theorem dX4_asks_10 : decode cX4_asks 10 = .ok (.ldc 55, 2) := by decide +kernel
theorem dX4_asks_12 : decode cX4_asks 12 = .ok (.invokevirtual 56, 3) := by decide +kernel
theorem dX4_asks_15 : decode cX4_asks 15 = .ok (.ireturn, 1) := by decide +kernel
theorem dX4_asks_16 : decode cX4_asks 16 = .ok (.aload_n 0, 1) := by decide +kernel
theorem dX4_asks_17 : decode cX4_asks 17 = .ok (.getfield 10, 3) := by decide +kernel
theorem dX4_asks_20 : decode cX4_asks 20 = .ok (.iload_n 1, 1) := by decide +kernel
theorem dX4_asks_21 : decode cX4_asks 21 = .ok (.iload_n 2, 1) := by decide +kernel
theorem dX4_asks_22 : decode cX4_asks 22 = .ok (.invokevirtual 125, 3) := by decide +kernel
theorem dX4_asks_25 : decode cX4_asks 25 = .ok (.ifCond .eq 7, 3) := by decide +kernel
theorem dX4_asks_28 : decode cX4_asks 28 = .ok (.iconst 1, 1) := by decide +kernel
theorem dX4_asks_29 : decode cX4_asks 29 = .ok (.goto 4, 3) := by decide +kernel
theorem dX4_asks_32 : decode cX4_asks 32 = .ok (.iconst 0, 1) := by decide +kernel
theorem dX4_asks_33 : decode cX4_asks 33 = .ok (.ireturn, 1) := by decide +kernel
set_option maxRecDepth 20000 in
theorem ggX4_seconds_X4_isFrom : GoodIn wsX4_seconds wsX4_isFrom := goodIn_r _ [9] (by decide +kernel) (by decide +kernel)
set_option maxRecDepth 20000 in
theorem gX4_seconds_X4_isFrom : GoodIn wsX4_seconds (va_wsS RX4 44 yX4_isFrom wsX4_isFrom) := goodIn_app (goodIn_of _ (by decide +kernel)) ggX4_seconds_X4_isFrom
set_option maxRecDepth 20000 in
theorem ggX4_seconds_X4_found : GoodIn wsX4_seconds wsX4_found := goodIn_r _ [13, 1, 14, 6, 7, 8, 9, 96, 97, 98, 99, 100, 101, 102] (by decide +kernel) (by decide +kernel)
set_option maxRecDepth 20000 in
theorem gX4_seconds_X4_found : GoodIn wsX4_seconds (wsV RX4 56 RX4 yX4_found wsX4_found) := goodIn_app (goodIn_of _ (by decide +kernel)) ggX4_seconds_X4_found
set_option maxRecDepth 20000 in
theorem ggX4_seconds_X1_goOn : GoodIn wsX4_seconds wsX1_goOn := goodIn_r _ [19, 20, 21, 22, 23, 18, 24, 25, 26, 27, 28, 29, 30, 31, 32, 33, 34, 35, 36, 37, 38, 39, 40, 41, 42, 43, 44, 45, 46, 47, 48, 49, 50, 51, 52, 53, 54, 55, 56, 57, 58, 59, 60, 61, 62, 63, 64, 65, 66, 67, 68, 69, 70, 71, 72, 73, 74, 75, 76, 77, 78, 79, 80, 81, 82, 83, 84, 85, 86, 87, 88, 89, 90, 91, 103, 104, 105, 106, 107, 108, 109, 110, 111, 112, 113] (by decide +kernel) (by decide +kernel)
set_option maxRecDepth 20000 in
theorem gX4_seconds_X1_goOn : GoodIn wsX4_seconds (wsV RX4 130 RX1 yX1_goOn wsX1_goOn) := goodIn_app (goodIn_of _ (by decide +kernel)) ggX4_seconds_X1_goOn
set_option maxRecDepth 20000 in
theorem ggX4_seconds_X1_setOfIn : GoodIn wsX4_seconds wsX1_setOfIn := goodIn_r _ [95, 26, 27, 103, 104, 105, 106, 107, 108, 109, 110, 111, 112, 113] (by decide +kernel) (by decide +kernel)
set_option maxRecDepth 20000 in
theorem gX4_seconds_X1_setOfIn : GoodIn wsX4_seconds (wsV RX4 66 RX1 yX1_setOfIn wsX1_setOfIn) := goodIn_app (goodIn_of _ (by decide +kernel)) ggX4_seconds_X1_setOfIn
theorem dX4_seconds_0 : decode cX4_seconds 0 = .ok (.iconst 1, 1) := by decide +kernel
theorem dX4_seconds_1 : decode cX4_seconds 1 = .ok (.sipush 200, 3) := by decide +kernel
theorem dX4_seconds_4 : decode cX4_seconds 4 = .ok (.iload_n 1, 1) := by decide +kernel
theorem dX4_seconds_5 : decode cX4_seconds 5 = .ok (.invokestatic 44, 3) := by decide +kernel
theorem dX4_seconds_8 : decode cX4_seconds 8 = .ok (.ifCond .ne 10, 3) := by decide +kernel
theorem dX4_seconds_11 : decode cX4_seconds 11 = .ok (.aload_n 0, 1) := by decide +kernel
theorem dX4_seconds_12 : decode cX4_seconds 12 = .ok (.ldc 55, 2) := by decide +kernel
theorem dX4_seconds_14 : decode cX4_seconds 14 = .ok (.invokevirtual 56, 3) := by decide +kernel
theorem dX4_seconds_17 : decode cX4_seconds 17 = .ok (.ireturn, 1) := by decide +kernel
theorem dX4_seconds_18 : decode cX4_seconds 18 = .ok (.aload_n 0, 1) := by decide +kernel
theorem dX4_seconds_19 : decode cX4_seconds 19 = .ok (.getfield 10, 3) := by decide +kernel
theorem dX4_seconds_22 : decode cX4_seconds 22 = .ok (.getfield 60, 3) := by decide +kernel
theorem dX4_seconds_25 : decode cX4_seconds 25 = .ok (.ldc 128, 2) := by decide +kernel
theorem dX4_seconds_27 : decode cX4_seconds 27 = .ok (.iload_n 1, 1) := by decide +kernel
theorem dX4_seconds_28 : decode cX4_seconds 28 = .ok (.isub, 1) := by decide +kernel
theorem dX4_seconds_29 : decode cX4_seconds 29 = .ok (.if_icmp .le 10, 3) := by decide +kernel
theorem dX4_seconds_32 : decode cX4_seconds 32 = .ok (.aload_n 0, 1) := by decide +kernel
theorem dX4_seconds_33 : decode cX4_seconds 33 = .ok (.ldc 129, 2) := by decide +kernel
theorem dX4_seconds_35 : decode cX4_seconds 35 = .ok (.invokevirtual 56, 3) := by decide +kernel
theorem dX4_seconds_38 : decode cX4_seconds 38 = .ok (.ireturn, 1) := by decide +kernel
theorem dX4_seconds_39 : decode cX4_seconds 39 = .ok (.aload_n 0, 1) := by decide +kernel
theorem dX4_seconds_40 : decode cX4_seconds 40 = .ok (.getfield 10, 3) := by decide +kernel
theorem dX4_seconds_43 : decode cX4_seconds 43 = .ok (.iload_n 1, 1) := by decide +kernel
theorem dX4_seconds_44 : decode cX4_seconds 44 = .ok (.invokevirtual 130, 3) := by decide +kernel
theorem dX4_seconds_47 : decode cX4_seconds 47 = .ok (.aload_n 0, 1) := by decide +kernel
theorem dX4_seconds_48 : decode cX4_seconds 48 = .ok (.getfield 10, 3) := by decide +kernel
theorem dX4_seconds_51 : decode cX4_seconds 51 = .ok (.invokevirtual 66, 3) := by decide +kernel
theorem dX4_seconds_54 : decode cX4_seconds 54 = .ok (.ireturn, 1) := by decide +kernel
set_option maxRecDepth 20000 in
theorem ggX4_on_X4_isPerson : GoodIn wsX4_on wsX4_isPerson := goodIn_r _ [6, 7, 8, 9, 10, 5, 11, 111, 112, 113, 114, 115, 116, 117, 118, 119, 120, 121, 122, 123, 124, 125, 126, 127, 128] (by decide +kernel) (by decide +kernel)
set_option maxRecDepth 20000 in
theorem gX4_on_X4_isPerson : GoodIn wsX4_on (wsV RX4 95 RX4 yX4_isPerson wsX4_isPerson) := goodIn_app (goodIn_of _ (by decide +kernel)) ggX4_on_X4_isPerson
set_option maxRecDepth 20000 in
theorem ggX4_on_X4_isFrom : GoodIn wsX4_on wsX4_isFrom := goodIn_r _ [11] (by decide +kernel) (by decide +kernel)
set_option maxRecDepth 20000 in
theorem gX4_on_X4_isFrom : GoodIn wsX4_on (va_wsS RX4 44 yX4_isFrom wsX4_isFrom) := goodIn_app (goodIn_of _ (by decide +kernel)) ggX4_on_X4_isFrom
set_option maxRecDepth 20000 in
theorem ggX4_on_X4_found : GoodIn wsX4_on wsX4_found := goodIn_r _ [15, 1, 16, 9, 10, 5, 11, 111, 112, 113, 114, 115, 116, 117] (by decide +kernel) (by decide +kernel)
set_option maxRecDepth 20000 in
theorem gX4_on_X4_found : GoodIn wsX4_on (wsV RX4 56 RX4 yX4_found wsX4_found) := goodIn_app (goodIn_of _ (by decide +kernel)) ggX4_on_X4_found
set_option maxRecDepth 20000 in
theorem ggX4_on_X4_freshTrial : GoodIn wsX4_on wsX4_freshTrial := goodIn_r _ [20, 21, 7, 22, 23, 24, 25, 26, 27, 28, 29, 30, 31, 32, 33, 34, 35, 36, 37, 38, 39, 40, 41, 111, 112, 113, 114, 115, 116, 117, 118, 119, 120, 121, 122, 123, 124, 125, 126, 127, 128] (by decide +kernel) (by decide +kernel)
set_option maxRecDepth 20000 in
theorem gX4_on_X4_freshTrial : GoodIn wsX4_on (wsV RX4 134 RX4 yX4_freshTrial wsX4_freshTrial) := goodIn_app (goodIn_of _ (by decide +kernel)) ggX4_on_X4_freshTrial
set_option maxRecDepth 20000 in
theorem ggX4_on_X1_goOn : GoodIn wsX4_on wsX1_goOn := goodIn_r _ [45, 27, 46, 47, 48, 25, 49, 29, 31, 40, 39, 37, 50, 51, 52, 53, 54, 55, 56, 57, 58, 59, 60, 61, 62, 63, 64, 65, 32, 38, 66, 67, 68, 69, 70, 71, 72, 73, 74, 75, 76, 77, 41, 78, 79, 80, 81, 82, 83, 84, 30, 85, 86, 87, 88, 89, 90, 91, 92, 93, 94, 95, 96, 97, 98, 99, 100, 101, 102, 103, 28, 104, 105, 106, 118, 119, 120, 121, 122, 123, 124, 125, 126, 127, 128] (by decide +kernel) (by decide +kernel)
set_option maxRecDepth 20000 in
theorem gX4_on_X1_goOn : GoodIn wsX4_on (wsV RX4 130 RX1 yX1_goOn wsX1_goOn) := goodIn_app (goodIn_of _ (by decide +kernel)) ggX4_on_X1_goOn
set_option maxRecDepth 20000 in
theorem ggX4_on_X1_rowOf : GoodIn wsX4_on wsX1_rowOf := goodIn_r _ [110, 32, 37, 38, 39, 40, 41, 118, 119, 120, 121, 122, 123, 124, 125, 126, 127, 128] (by decide +kernel) (by decide +kernel)
set_option maxRecDepth 20000 in
theorem gX4_on_X1_rowOf : GoodIn wsX4_on (wsV RX4 101 RX1 yX1_rowOf wsX1_rowOf) := goodIn_app (goodIn_of _ (by decide +kernel)) ggX4_on_X1_rowOf
theorem dX4_on_0 : decode cX4_on 0 = .ok (.aload_n 0, 1) := by decide +kernel
theorem dX4_on_1 : decode cX4_on 1 = .ok (.iload_n 1, 1) := by decide +kernel
theorem dX4_on_2 : decode cX4_on 2 = .ok (.invokevirtual 95, 3) := by decide +kernel
theorem dX4_on_5 : decode cX4_on 5 = .ok (.ifCond .eq 23, 3) := by decide +kernel
theorem dX4_on_8 : decode cX4_on 8 = .ok (.iconst 0, 1) := by decide +kernel
theorem dX4_on_9 : decode cX4_on 9 = .ok (.sipush 400, 3) := by decide +kernel
theorem dX4_on_12 : decode cX4_on 12 = .ok (.iload_n 2, 1) := by decide +kernel
theorem dX4_on_13 : decode cX4_on 13 = .ok (.invokestatic 44, 3) := by decide +kernel
theorem dX4_on_16 : decode cX4_on 16 = .ok (.ifCond .eq 12, 3) := by decide +kernel
theorem dX4_on_19 : decode cX4_on 19 = .ok (.iconst 0, 1) := by decide +kernel
theorem dX4_on_20 : decode cX4_on 20 = .ok (.iconst 2, 1) := by decide +kernel
theorem dX4_on_21 : decode cX4_on 21 = .ok (.iload_n 3, 1) := by decide +kernel
theorem dX4_on_22 : decode cX4_on 22 = .ok (.invokestatic 44, 3) := by decide +kernel
theorem dX4_on_25 : decode cX4_on 25 = .ok (.ifCond .ne 10, 3) := by decide +kernel
theorem dX4_on_28 : decode cX4_on 28 = .ok (.aload_n 0, 1) := by decide +kernel
theorem dX4_on_29 : decode cX4_on 29 = .ok (.ldc 55, 2) := by decide +kernel
theorem dX4_on_31 : decode cX4_on 31 = .ok (.invokevirtual 56, 3) := by decide +kernel
theorem dX4_on_34 : decode cX4_on 34 = .ok (.ireturn, 1) := by decide +kernel
theorem dX4_on_35 : decode cX4_on 35 = .ok (.aload_n 0, 1) := by decide +kernel
theorem dX4_on_36 : decode cX4_on 36 = .ok (.invokevirtual 134, 3) := by decide +kernel
theorem dX4_on_39 : decode cX4_on 39 = .ok (.astore 4, 2) := by decide +kernel
theorem dX4_on_41 : decode cX4_on 41 = .ok (.aload 4, 2) := by decide +kernel
theorem dX4_on_43 : decode cX4_on 43 = .ok (.iload_n 2, 1) := by decide +kernel
theorem dX4_on_44 : decode cX4_on 44 = .ok (.invokevirtual 130, 3) := by decide +kernel
theorem dX4_on_47 : decode cX4_on 47 = .ok (.aload 4, 2) := by decide +kernel
theorem dX4_on_49 : decode cX4_on 49 = .ok (.iconst 3, 1) := by decide +kernel
theorem dX4_on_50 : decode cX4_on 50 = .ok (.iload_n 3, 1) := by decide +kernel
theorem dX4_on_51 : decode cX4_on 51 = .ok (.iadd, 1) := by decide +kernel
theorem dX4_on_52 : decode cX4_on 52 = .ok (.invokevirtual 101, 3) := by decide +kernel
theorem dX4_on_55 : decode cX4_on 55 = .ok (.astore 5, 2) := by decide +kernel
theorem dX4_on_57 : decode cX4_on 57 = .ok (.aload 5, 2) := by decide +kernel
theorem dX4_on_59 : decode cX4_on 59 = .ok (.ifnonnull 12, 3) := by decide +kernel
theorem dX4_on_62 : decode cX4_on 62 = .ok (.aload_n 0, 1) := by decide +kernel
theorem dX4_on_63 : decode cX4_on 63 = .ok (.ldc 55, 2) := by decide +kernel
theorem dX4_on_65 : decode cX4_on 65 = .ok (.invokevirtual 56, 3) := by decide +kernel
theorem dX4_on_68 : decode cX4_on 68 = .ok (.goto 7, 3) := by decide +kernel
theorem dX4_on_71 : decode cX4_on 71 = .ok (.aload 5, 2) := by decide +kernel
theorem dX4_on_73 : decode cX4_on 73 = .ok (.iload_n 1, 1) := by decide +kernel
theorem dX4_on_74 : decode cX4_on 74 = .ok (.iaload, 1) := by decide +kernel
theorem dX4_on_75 : decode cX4_on 75 = .ok (.ireturn, 1) := by decide +kernel
set_option maxRecDepth 20000 in
theorem ggX4_loose_X4_isFrom : GoodIn wsX4_loose wsX4_isFrom := goodIn_r _ [5] (by decide +kernel) (by decide +kernel)
set_option maxRecDepth 20000 in
theorem gX4_loose_X4_isFrom : GoodIn wsX4_loose (va_wsS RX4 44 yX4_isFrom wsX4_isFrom) := goodIn_app (goodIn_of _ (by decide +kernel)) ggX4_loose_X4_isFrom
set_option maxRecDepth 20000 in
theorem ggX4_loose_X4_found : GoodIn wsX4_loose wsX4_found := goodIn_r _ [9, 1, 10, 2, 3, 4, 5, 117, 118, 119, 120, 121, 122, 123] (by decide +kernel) (by decide +kernel)
set_option maxRecDepth 20000 in
theorem gX4_loose_X4_found : GoodIn wsX4_loose (wsV RX4 56 RX4 yX4_found wsX4_found) := goodIn_app (goodIn_of _ (by decide +kernel)) ggX4_loose_X4_found
set_option maxRecDepth 20000 in
theorem ggX4_loose_X4_freshTrial : GoodIn wsX4_loose wsX4_freshTrial := goodIn_r _ [14, 15, 16, 17, 18, 19, 20, 21, 22, 23, 24, 25, 26, 27, 28, 29, 30, 31, 32, 33, 34, 35, 36, 117, 118, 119, 120, 121, 122, 123, 124, 125, 126, 127, 128, 129, 130, 131, 132, 133, 134] (by decide +kernel) (by decide +kernel)
set_option maxRecDepth 20000 in
theorem gX4_loose_X4_freshTrial : GoodIn wsX4_loose (wsV RX4 134 RX4 yX4_freshTrial wsX4_freshTrial) := goodIn_app (goodIn_of _ (by decide +kernel)) ggX4_loose_X4_freshTrial
set_option maxRecDepth 20000 in
theorem ggX4_loose_X1_goOn : GoodIn wsX4_loose wsX1_goOn := goodIn_r _ [40, 22, 41, 42, 43, 20, 44, 24, 26, 35, 34, 32, 45, 46, 47, 48, 49, 50, 51, 52, 53, 54, 55, 56, 57, 58, 59, 60, 27, 33, 61, 62, 63, 64, 65, 66, 67, 68, 69, 70, 71, 72, 36, 73, 74, 75, 76, 77, 78, 79, 25, 80, 81, 82, 83, 84, 85, 86, 87, 88, 89, 90, 91, 92, 93, 94, 95, 96, 97, 98, 23, 99, 100, 101, 124, 125, 126, 127, 128, 129, 130, 131, 132, 133, 134] (by decide +kernel) (by decide +kernel)
set_option maxRecDepth 20000 in
theorem gX4_loose_X1_goOn : GoodIn wsX4_loose (wsV RX4 130 RX1 yX1_goOn wsX1_goOn) := goodIn_app (goodIn_of _ (by decide +kernel)) ggX4_loose_X1_goOn
set_option maxRecDepth 20000 in
theorem ggX4_loose_X1_countLoose : GoodIn wsX4_loose wsX1_countLoose := goodIn_r _ [105, 106, 107, 108, 20, 109, 26, 32, 35, 110, 111, 112, 113, 114, 115, 116, 124, 125, 126, 127, 128, 129, 130, 131, 132, 133, 134] (by decide +kernel) (by decide +kernel)
set_option maxRecDepth 20000 in
theorem gX4_loose_X1_countLoose : GoodIn wsX4_loose (wsV RX4 138 RX1 yX1_countLoose wsX1_countLoose) := goodIn_app (goodIn_of _ (by decide +kernel)) ggX4_loose_X1_countLoose
theorem dX4_loose_0 : decode cX4_loose 0 = .ok (.iconst 0, 1) := by decide +kernel
theorem dX4_loose_1 : decode cX4_loose 1 = .ok (.sipush 400, 3) := by decide +kernel
theorem dX4_loose_4 : decode cX4_loose 4 = .ok (.iload_n 1, 1) := by decide +kernel
theorem dX4_loose_5 : decode cX4_loose 5 = .ok (.invokestatic 44, 3) := by decide +kernel
theorem dX4_loose_8 : decode cX4_loose 8 = .ok (.ifCond .ne 10, 3) := by decide +kernel
theorem dX4_loose_11 : decode cX4_loose 11 = .ok (.aload_n 0, 1) := by decide +kernel
theorem dX4_loose_12 : decode cX4_loose 12 = .ok (.ldc 55, 2) := by decide +kernel
theorem dX4_loose_14 : decode cX4_loose 14 = .ok (.invokevirtual 56, 3) := by decide +kernel
theorem dX4_loose_17 : decode cX4_loose 17 = .ok (.ireturn, 1) := by decide +kernel
theorem dX4_loose_18 : decode cX4_loose 18 = .ok (.aload_n 0, 1) := by decide +kernel
theorem dX4_loose_19 : decode cX4_loose 19 = .ok (.invokevirtual 134, 3) := by decide +kernel
theorem dX4_loose_22 : decode cX4_loose 22 = .ok (.astore_n 2, 1) := by decide +kernel
theorem dX4_loose_23 : decode cX4_loose 23 = .ok (.aload_n 2, 1) := by decide +kernel
theorem dX4_loose_24 : decode cX4_loose 24 = .ok (.iload_n 1, 1) := by decide +kernel
theorem dX4_loose_25 : decode cX4_loose 25 = .ok (.invokevirtual 130, 3) := by decide +kernel
theorem dX4_loose_28 : decode cX4_loose 28 = .ok (.aload_n 2, 1) := by decide +kernel
theorem dX4_loose_29 : decode cX4_loose 29 = .ok (.invokevirtual 138, 3) := by decide +kernel
theorem dX4_loose_32 : decode cX4_loose 32 = .ok (.ireturn, 1) := by decide +kernel
set_option maxRecDepth 20000 in
theorem ggX4_comes_X4_isPerson : GoodIn wsX4_comes wsX4_isPerson := goodIn_r _ [6, 7, 8, 9, 10, 5, 11, 112, 113, 114, 115, 116, 117, 118, 119, 120, 121, 122, 123, 124, 125, 126, 127, 128, 129] (by decide +kernel) (by decide +kernel)
set_option maxRecDepth 20000 in
theorem gX4_comes_X4_isPerson : GoodIn wsX4_comes (wsV RX4 95 RX4 yX4_isPerson wsX4_isPerson) := goodIn_app (goodIn_of _ (by decide +kernel)) ggX4_comes_X4_isPerson
set_option maxRecDepth 20000 in
theorem ggX4_comes_X4_found : GoodIn wsX4_comes wsX4_found := goodIn_r _ [15, 1, 16, 9, 10, 5, 11, 112, 113, 114, 115, 116, 117, 118] (by decide +kernel) (by decide +kernel)
set_option maxRecDepth 20000 in
theorem gX4_comes_X4_found : GoodIn wsX4_comes (wsV RX4 56 RX4 yX4_found wsX4_found) := goodIn_app (goodIn_of _ (by decide +kernel)) ggX4_comes_X4_found
set_option maxRecDepth 20000 in
theorem ggX4_comes_X4_freshTrial : GoodIn wsX4_comes wsX4_freshTrial := goodIn_r _ [20, 21, 7, 22, 23, 24, 25, 26, 27, 28, 29, 30, 31, 32, 33, 34, 35, 36, 37, 38, 39, 40, 41, 112, 113, 114, 115, 116, 117, 118, 119, 120, 121, 122, 123, 124, 125, 126, 127, 128, 129] (by decide +kernel) (by decide +kernel)
set_option maxRecDepth 20000 in
theorem gX4_comes_X4_freshTrial : GoodIn wsX4_comes (wsV RX4 134 RX4 yX4_freshTrial wsX4_freshTrial) := goodIn_app (goodIn_of _ (by decide +kernel)) ggX4_comes_X4_freshTrial
set_option maxRecDepth 20000 in
theorem ggX4_comes_X1_firstIn : GoodIn wsX4_comes wsX1_firstIn := goodIn_r _ [45, 40, 46, 47, 48, 25, 49, 29, 31, 39, 37, 50, 51, 52, 53, 54, 55, 56, 57, 58, 59, 60, 61, 62, 63, 64, 65, 32, 38, 66, 67, 68, 69, 70, 71, 72, 73, 74, 75, 76, 77, 41, 78, 79, 80, 81, 82, 83, 84, 30, 85, 86, 87, 88, 89, 90, 91, 92, 93, 94, 95, 96, 97, 98, 99, 100, 101, 102, 103, 28, 104, 105, 106, 119, 120, 121, 122, 123, 124, 125, 126, 127, 128, 129] (by decide +kernel) (by decide +kernel)
set_option maxRecDepth 20000 in
theorem gX4_comes_X1_firstIn : GoodIn wsX4_comes (wsV RX4 141 RX1 yX1_firstIn wsX1_firstIn) := goodIn_app (goodIn_of _ (by decide +kernel)) ggX4_comes_X1_firstIn
set_option maxRecDepth 20000 in
theorem ggX4_comes_X4_orNone : GoodIn wsX4_comes wsX4_orNone := goodIn_r _ [110, 111, 12, 13, 14, 5, 15, 1, 16, 9, 10, 11, 112, 113, 114, 115, 116, 117, 118] (by decide +kernel) (by decide +kernel)
set_option maxRecDepth 20000 in
theorem gX4_comes_X4_orNone : GoodIn wsX4_comes (wsV RX4 144 RX4 yX4_orNone wsX4_orNone) := goodIn_app (goodIn_of _ (by decide +kernel)) ggX4_comes_X4_orNone
theorem dX4_comes_0 : decode cX4_comes 0 = .ok (.aload_n 0, 1) := by decide +kernel
theorem dX4_comes_1 : decode cX4_comes 1 = .ok (.iload_n 1, 1) := by decide +kernel
theorem dX4_comes_2 : decode cX4_comes 2 = .ok (.invokevirtual 95, 3) := by decide +kernel
theorem dX4_comes_5 : decode cX4_comes 5 = .ok (.ifCond .ne 10, 3) := by decide +kernel
theorem dX4_comes_8 : decode cX4_comes 8 = .ok (.aload_n 0, 1) := by decide +kernel
theorem dX4_comes_9 : decode cX4_comes 9 = .ok (.ldc 55, 2) := by decide +kernel
theorem dX4_comes_11 : decode cX4_comes 11 = .ok (.invokevirtual 56, 3) := by decide +kernel
theorem dX4_comes_14 : decode cX4_comes 14 = .ok (.ireturn, 1) := by decide +kernel
theorem dX4_comes_15 : decode cX4_comes 15 = .ok (.aload_n 0, 1) := by decide +kernel
theorem dX4_comes_16 : decode cX4_comes 16 = .ok (.aload_n 0, 1) := by decide +kernel
theorem dX4_comes_17 : decode cX4_comes 17 = .ok (.invokevirtual 134, 3) := by decide +kernel
theorem dX4_comes_20 : decode cX4_comes 20 = .ok (.iload_n 1, 1) := by decide +kernel
theorem dX4_comes_21 : decode cX4_comes 21 = .ok (.sipush 400, 3) := by decide +kernel
theorem dX4_comes_24 : decode cX4_comes 24 = .ok (.invokevirtual 141, 3) := by decide +kernel
theorem dX4_comes_27 : decode cX4_comes 27 = .ok (.invokevirtual 144, 3) := by decide +kernel
theorem dX4_comes_30 : decode cX4_comes 30 = .ok (.ireturn, 1) := by decide +kernel
set_option maxRecDepth 20000 in
theorem ggX4_shuts_X4_freshTrial : GoodIn wsX4_shuts wsX4_freshTrial := goodIn_r _ [5, 6, 7, 8, 9, 10, 11, 12, 13, 14, 15, 16, 17, 18, 19, 20, 21, 22, 23, 24, 25, 26, 27, 103, 104, 105, 106, 107, 108, 109, 110, 111, 112, 113, 114, 115, 116, 117, 118, 119, 120] (by decide +kernel) (by decide +kernel)
set_option maxRecDepth 20000 in
theorem gX4_shuts_X4_freshTrial : GoodIn wsX4_shuts (wsV RX4 134 RX4 yX4_freshTrial wsX4_freshTrial) := goodIn_app (goodIn_of _ (by decide +kernel)) ggX4_shuts_X4_freshTrial
set_option maxRecDepth 20000 in
theorem ggX4_shuts_X1_firstShut : GoodIn wsX4_shuts wsX1_firstShut := goodIn_r _ [31, 15, 32, 33, 34, 11, 35, 17, 26, 25, 36, 37, 38, 39, 40, 41, 42, 43, 44, 45, 46, 47, 18, 24, 48, 49, 50, 51, 52, 53, 54, 55, 56, 57, 58, 59, 23, 27, 60, 61, 62, 63, 64, 65, 66, 16, 67, 68, 69, 70, 71, 72, 73, 74, 75, 76, 77, 78, 79, 80, 81, 82, 83, 84, 85, 14, 86, 87, 88, 110, 111, 112, 113, 114, 115, 116, 117, 118, 119, 120] (by decide +kernel) (by decide +kernel)
set_option maxRecDepth 20000 in
theorem gX4_shuts_X1_firstShut : GoodIn wsX4_shuts (wsV RX4 147 RX1 yX1_firstShut wsX1_firstShut) := goodIn_app (goodIn_of _ (by decide +kernel)) ggX4_shuts_X1_firstShut
set_option maxRecDepth 20000 in
theorem ggX4_shuts_X4_orNone : GoodIn wsX4_shuts wsX4_orNone := goodIn_r _ [92, 93, 94, 95, 96, 4, 97, 98, 99, 100, 101, 102, 103, 104, 105, 106, 107, 108, 109] (by decide +kernel) (by decide +kernel)
set_option maxRecDepth 20000 in
theorem gX4_shuts_X4_orNone : GoodIn wsX4_shuts (wsV RX4 144 RX4 yX4_orNone wsX4_orNone) := goodIn_app (goodIn_of _ (by decide +kernel)) ggX4_shuts_X4_orNone
theorem dX4_shuts_0 : decode cX4_shuts 0 = .ok (.aload_n 0, 1) := by decide +kernel
theorem dX4_shuts_1 : decode cX4_shuts 1 = .ok (.aload_n 0, 1) := by decide +kernel
theorem dX4_shuts_2 : decode cX4_shuts 2 = .ok (.invokevirtual 134, 3) := by decide +kernel
theorem dX4_shuts_5 : decode cX4_shuts 5 = .ok (.sipush 400, 3) := by decide +kernel
theorem dX4_shuts_8 : decode cX4_shuts 8 = .ok (.invokevirtual 147, 3) := by decide +kernel
theorem dX4_shuts_11 : decode cX4_shuts 11 = .ok (.invokevirtual 144, 3) := by decide +kernel
theorem dX4_shuts_14 : decode cX4_shuts 14 = .ok (.ireturn, 1) := by decide +kernel
set_option maxRecDepth 20000 in
theorem ggX4_all_X4_freshTrial : GoodIn wsX4_all wsX4_freshTrial := goodIn_r _ [5, 6, 7, 8, 9, 10, 11, 12, 13, 14, 15, 16, 17, 18, 19, 20, 21, 22, 23, 24, 25, 26, 27, 111, 112, 113, 114, 115, 116, 117, 118, 119, 120, 121, 122, 123, 124, 125, 126, 127, 128] (by decide +kernel) (by decide +kernel)
set_option maxRecDepth 20000 in
theorem gX4_all_X4_freshTrial : GoodIn wsX4_all (wsV RX4 134 RX4 yX4_freshTrial wsX4_freshTrial) := goodIn_app (goodIn_of _ (by decide +kernel)) ggX4_all_X4_freshTrial
set_option maxRecDepth 20000 in
theorem ggX4_all_X1_firstAllIn : GoodIn wsX4_all wsX1_firstAllIn := goodIn_r _ [31, 26, 17, 32, 33, 34, 11, 35, 36, 37, 38, 39, 15, 25, 23, 40, 41, 42, 43, 44, 45, 46, 47, 48, 49, 50, 51, 52, 53, 54, 55, 18, 24, 56, 57, 58, 59, 60, 61, 62, 63, 64, 65, 66, 67, 27, 68, 69, 70, 71, 72, 73, 74, 16, 75, 76, 77, 78, 79, 80, 81, 82, 83, 84, 85, 86, 87, 88, 89, 90, 91, 92, 93, 14, 94, 95, 96, 118, 119, 120, 121, 122, 123, 124, 125, 126, 127, 128] (by decide +kernel) (by decide +kernel)
set_option maxRecDepth 20000 in
theorem gX4_all_X1_firstAllIn : GoodIn wsX4_all (wsV RX4 150 RX1 yX1_firstAllIn wsX1_firstAllIn) := goodIn_app (goodIn_of _ (by decide +kernel)) ggX4_all_X1_firstAllIn
set_option maxRecDepth 20000 in
theorem ggX4_all_X4_orNone : GoodIn wsX4_all wsX4_orNone := goodIn_r _ [100, 101, 102, 103, 104, 4, 105, 106, 107, 108, 109, 110, 111, 112, 113, 114, 115, 116, 117] (by decide +kernel) (by decide +kernel)
set_option maxRecDepth 20000 in
theorem gX4_all_X4_orNone : GoodIn wsX4_all (wsV RX4 144 RX4 yX4_orNone wsX4_orNone) := goodIn_app (goodIn_of _ (by decide +kernel)) ggX4_all_X4_orNone
theorem dX4_all_0 : decode cX4_all 0 = .ok (.aload_n 0, 1) := by decide +kernel
theorem dX4_all_1 : decode cX4_all 1 = .ok (.aload_n 0, 1) := by decide +kernel
theorem dX4_all_2 : decode cX4_all 2 = .ok (.invokevirtual 134, 3) := by decide +kernel
theorem dX4_all_5 : decode cX4_all 5 = .ok (.sipush 400, 3) := by decide +kernel
theorem dX4_all_8 : decode cX4_all 8 = .ok (.invokevirtual 150, 3) := by decide +kernel
theorem dX4_all_11 : decode cX4_all 11 = .ok (.invokevirtual 144, 3) := by decide +kernel
theorem dX4_all_14 : decode cX4_all 14 = .ok (.ireturn, 1) := by decide +kernel
set_option maxRecDepth 20000 in
theorem ggX4_care_X4_isWeighed : GoodIn wsX4_care wsX4_isWeighed := goodIn_r _ [8, 9, 10, 7, 11] (by decide +kernel) (by decide +kernel)
set_option maxRecDepth 20000 in
theorem gX4_care_X4_isWeighed : GoodIn wsX4_care (va_wsS RX4 153 yX4_isWeighed wsX4_isWeighed) := goodIn_app (goodIn_of _ (by decide +kernel)) ggX4_care_X4_isWeighed
set_option maxRecDepth 20000 in
theorem ggX4_care_X4_found : GoodIn wsX4_care wsX4_found := goodIn_r _ [15, 1, 16, 9, 10, 7, 11, 122, 123, 124, 125, 126, 127, 128] (by decide +kernel) (by decide +kernel)
set_option maxRecDepth 20000 in
theorem gX4_care_X4_found : GoodIn wsX4_care (wsV RX4 56 RX4 yX4_found wsX4_found) := goodIn_app (goodIn_of _ (by decide +kernel)) ggX4_care_X4_found
set_option maxRecDepth 20000 in
theorem ggX4_care_X1_countLoose : GoodIn wsX4_care wsX1_countLoose := goodIn_r _ [21, 22, 23, 24, 20, 25, 26, 27, 28, 29, 30, 31, 32, 33, 34, 35, 129, 130, 131, 132, 133, 134, 135, 136, 137, 138, 139] (by decide +kernel) (by decide +kernel)
set_option maxRecDepth 20000 in
theorem gX4_care_X1_countLoose : GoodIn wsX4_care (wsV RX4 138 RX1 yX1_countLoose wsX1_countLoose) := goodIn_app (goodIn_of _ (by decide +kernel)) ggX4_care_X1_countLoose
set_option maxRecDepth 20000 in
theorem ggX4_care_X4_freshTrial : GoodIn wsX4_care wsX4_freshTrial := goodIn_r _ [39, 40, 2, 41, 42, 43, 20, 44, 45, 46, 47, 48, 26, 49, 50, 51, 52, 53, 27, 54, 55, 28, 56, 122, 123, 124, 125, 126, 127, 128, 129, 130, 131, 132, 133, 134, 135, 136, 137, 138, 139] (by decide +kernel) (by decide +kernel)
set_option maxRecDepth 20000 in
theorem gX4_care_X4_freshTrial : GoodIn wsX4_care (wsV RX4 134 RX4 yX4_freshTrial wsX4_freshTrial) := goodIn_app (goodIn_of _ (by decide +kernel)) ggX4_care_X4_freshTrial
set_option maxRecDepth 20000 in
theorem ggX4_care_X1_goOn : GoodIn wsX4_care wsX1_goOn := goodIn_r _ [60, 45, 61, 62, 63, 20, 64, 47, 26, 28, 55, 27, 65, 66, 67, 68, 69, 70, 71, 72, 73, 74, 75, 76, 77, 78, 79, 80, 49, 54, 81, 82, 83, 84, 85, 86, 87, 88, 89, 90, 91, 92, 56, 93, 94, 95, 96, 97, 98, 99, 48, 100, 101, 102, 103, 104, 105, 106, 107, 108, 109, 110, 111, 112, 113, 114, 115, 116, 117, 118, 46, 119, 120, 121, 129, 130, 131, 132, 133, 134, 135, 136, 137, 138, 139] (by decide +kernel) (by decide +kernel)
set_option maxRecDepth 20000 in
theorem gX4_care_X1_goOn : GoodIn wsX4_care (wsV RX4 130 RX1 yX1_goOn wsX1_goOn) := goodIn_app (goodIn_of _ (by decide +kernel)) ggX4_care_X1_goOn
theorem dX4_care_0 : decode cX4_care 0 = .ok (.iload_n 1, 1) := by decide +kernel
theorem dX4_care_1 : decode cX4_care 1 = .ok (.invokestatic 153, 3) := by decide +kernel
theorem dX4_care_4 : decode cX4_care 4 = .ok (.ifCond .ne 10, 3) := by decide +kernel
theorem dX4_care_7 : decode cX4_care 7 = .ok (.aload_n 0, 1) := by decide +kernel
theorem dX4_care_8 : decode cX4_care 8 = .ok (.ldc 55, 2) := by decide +kernel
theorem dX4_care_10 : decode cX4_care 10 = .ok (.invokevirtual 56, 3) := by decide +kernel
theorem dX4_care_13 : decode cX4_care 13 = .ok (.ireturn, 1) := by decide +kernel
theorem dX4_care_14 : decode cX4_care 14 = .ok (.aload_n 0, 1) := by decide +kernel
theorem dX4_care_15 : decode cX4_care 15 = .ok (.getfield 10, 3) := by decide +kernel
theorem dX4_care_18 : decode cX4_care 18 = .ok (.invokevirtual 138, 3) := by decide +kernel
theorem dX4_care_21 : decode cX4_care 21 = .ok (.istore_n 2, 1) := by decide +kernel
theorem dX4_care_22 : decode cX4_care 22 = .ok (.iconst 0, 1) := by decide +kernel
theorem dX4_care_23 : decode cX4_care 23 = .ok (.istore_n 3, 1) := by decide +kernel
theorem dX4_care_24 : decode cX4_care 24 = .ok (.iload_n 3, 1) := by decide +kernel
theorem dX4_care_25 : decode cX4_care 25 = .ok (.bipush 99, 2) := by decide +kernel
theorem dX4_care_27 : decode cX4_care 27 = .ok (.if_icmp .gt 38, 3) := by decide +kernel
theorem dX4_care_30 : decode cX4_care 30 = .ok (.aload_n 0, 1) := by decide +kernel
theorem dX4_care_31 : decode cX4_care 31 = .ok (.invokevirtual 134, 3) := by decide +kernel
theorem dX4_care_34 : decode cX4_care 34 = .ok (.astore 4, 2) := by decide +kernel
theorem dX4_care_36 : decode cX4_care 36 = .ok (.aload 4, 2) := by decide +kernel
theorem dX4_care_38 : decode cX4_care 38 = .ok (.iload_n 3, 1) := by decide +kernel
theorem dX4_care_39 : decode cX4_care 39 = .ok (.putfield 48, 3) := by decide +kernel
theorem dX4_care_42 : decode cX4_care 42 = .ok (.aload 4, 2) := by decide +kernel
theorem dX4_care_44 : decode cX4_care 44 = .ok (.iload_n 1, 1) := by decide +kernel
theorem dX4_care_45 : decode cX4_care 45 = .ok (.invokevirtual 130, 3) := by decide +kernel
theorem dX4_care_48 : decode cX4_care 48 = .ok (.aload 4, 2) := by decide +kernel
theorem dX4_care_50 : decode cX4_care 50 = .ok (.invokevirtual 138, 3) := by decide +kernel
theorem dX4_care_53 : decode cX4_care 53 = .ok (.iload_n 2, 1) := by decide +kernel
theorem dX4_care_54 : decode cX4_care 54 = .ok (.if_icmp .gt 5, 3) := by decide +kernel
theorem dX4_care_57 : decode cX4_care 57 = .ok (.iload_n 3, 1) := by decide +kernel
theorem dX4_care_58 : decode cX4_care 58 = .ok (.ireturn, 1) := by decide +kernel
theorem dX4_care_59 : decode cX4_care 59 = .ok (.iinc 3 1, 3) := by decide +kernel
theorem dX4_care_62 : decode cX4_care 62 = .ok (.goto (-38), 3) := by decide +kernel
theorem dX4_care_65 : decode cX4_care 65 = .ok (.aload_n 0, 1) := by decide +kernel
theorem dX4_care_66 : decode cX4_care 66 = .ok (.ldc 156, 2) := by decide +kernel
theorem dX4_care_68 : decode cX4_care 68 = .ok (.invokevirtual 56, 3) := by decide +kernel
theorem dX4_care_71 : decode cX4_care 71 = .ok (.ireturn, 1) := by decide +kernel
set_option maxRecDepth 20000 in
theorem ggX4_kind_X4_isPerson : GoodIn wsX4_kind wsX4_isPerson := goodIn_r _ [7, 8, 9, 10, 11, 6, 12, 137, 138, 139, 140, 141, 142, 143, 126, 127, 128, 129, 130, 131, 132, 133, 134, 135, 136] (by decide +kernel) (by decide +kernel)
set_option maxRecDepth 20000 in
theorem gX4_kind_X4_isPerson : GoodIn wsX4_kind (wsV RX4 95 RX4 yX4_isPerson wsX4_isPerson) := goodIn_app (goodIn_of _ (by decide +kernel)) ggX4_kind_X4_isPerson
set_option maxRecDepth 20000 in
theorem ggX4_kind_X4_isWeighed : GoodIn wsX4_kind wsX4_isWeighed := goodIn_r _ [15, 10, 11, 6, 12] (by decide +kernel) (by decide +kernel)
set_option maxRecDepth 20000 in
theorem gX4_kind_X4_isWeighed : GoodIn wsX4_kind (va_wsS RX4 153 yX4_isWeighed wsX4_isWeighed) := goodIn_app (goodIn_of _ (by decide +kernel)) ggX4_kind_X4_isWeighed
set_option maxRecDepth 20000 in
theorem ggX4_kind_X4_found : GoodIn wsX4_kind wsX4_found := goodIn_r _ [19, 1, 20, 10, 11, 6, 12, 137, 138, 139, 140, 141, 142, 143] (by decide +kernel) (by decide +kernel)
set_option maxRecDepth 20000 in
theorem gX4_kind_X4_found : GoodIn wsX4_kind (wsV RX4 56 RX4 yX4_found wsX4_found) := goodIn_app (goodIn_of _ (by decide +kernel)) ggX4_kind_X4_found
set_option maxRecDepth 20000 in
theorem ggX4_kind_X4_freshTrial : GoodIn wsX4_kind wsX4_freshTrial := goodIn_r _ [24, 25, 8, 26, 27, 28, 29, 30, 31, 32, 33, 34, 35, 36, 37, 38, 39, 40, 41, 42, 43, 44, 45, 137, 138, 139, 140, 141, 142, 143, 126, 127, 128, 129, 130, 131, 132, 133, 134, 135, 136] (by decide +kernel) (by decide +kernel)
set_option maxRecDepth 20000 in
theorem gX4_kind_X4_freshTrial : GoodIn wsX4_kind (wsV RX4 134 RX4 yX4_freshTrial wsX4_freshTrial) := goodIn_app (goodIn_of _ (by decide +kernel)) ggX4_kind_X4_freshTrial
set_option maxRecDepth 20000 in
theorem ggX4_kind_X1_goOn : GoodIn wsX4_kind wsX1_goOn := goodIn_r _ [49, 31, 50, 51, 52, 29, 53, 33, 35, 44, 43, 41, 54, 55, 56, 57, 58, 59, 60, 61, 62, 63, 64, 65, 66, 67, 68, 69, 36, 42, 70, 71, 72, 73, 74, 75, 76, 77, 78, 79, 80, 81, 45, 82, 83, 84, 85, 86, 87, 88, 34, 89, 90, 91, 92, 93, 94, 95, 96, 97, 98, 99, 100, 101, 102, 103, 104, 105, 106, 107, 32, 108, 109, 110, 126, 127, 128, 129, 130, 131, 132, 133, 134, 135, 136] (by decide +kernel) (by decide +kernel)
set_option maxRecDepth 20000 in
theorem gX4_kind_X1_goOn : GoodIn wsX4_kind (wsV RX4 130 RX1 yX1_goOn wsX1_goOn) := goodIn_app (goodIn_of _ (by decide +kernel)) ggX4_kind_X1_goOn
set_option maxRecDepth 20000 in
theorem ggX4_kind_X1_countLoose : GoodIn wsX4_kind wsX1_countLoose := goodIn_r _ [114, 115, 116, 117, 29, 118, 35, 41, 44, 119, 120, 121, 122, 123, 124, 125, 126, 127, 128, 129, 130, 131, 132, 133, 134, 135, 136] (by decide +kernel) (by decide +kernel)
set_option maxRecDepth 20000 in
theorem gX4_kind_X1_countLoose : GoodIn wsX4_kind (wsV RX4 138 RX1 yX1_countLoose wsX1_countLoose) := goodIn_app (goodIn_of _ (by decide +kernel)) ggX4_kind_X1_countLoose
theorem dX4_kind_0 : decode cX4_kind 0 = .ok (.aload_n 0, 1) := by decide +kernel
theorem dX4_kind_1 : decode cX4_kind 1 = .ok (.iload_n 1, 1) := by decide +kernel
theorem dX4_kind_2 : decode cX4_kind 2 = .ok (.invokevirtual 95, 3) := by decide +kernel
theorem dX4_kind_5 : decode cX4_kind 5 = .ok (.ifCond .eq 10, 3) := by decide +kernel
theorem dX4_kind_8 : decode cX4_kind 8 = .ok (.iload_n 2, 1) := by decide +kernel
theorem dX4_kind_9 : decode cX4_kind 9 = .ok (.invokestatic 153, 3) := by decide +kernel
theorem dX4_kind_12 : decode cX4_kind 12 = .ok (.ifCond .ne 10, 3) := by decide +kernel
theorem dX4_kind_15 : decode cX4_kind 15 = .ok (.aload_n 0, 1) := by decide +kernel
theorem dX4_kind_16 : decode cX4_kind 16 = .ok (.ldc 55, 2) := by decide +kernel
theorem dX4_kind_18 : decode cX4_kind 18 = .ok (.invokevirtual 56, 3) := by decide +kernel
theorem dX4_kind_21 : decode cX4_kind 21 = .ok (.ireturn, 1) := by decide +kernel
theorem dX4_kind_22 : decode cX4_kind 22 = .ok (.iconst 0, 1) := by decide +kernel
theorem dX4_kind_23 : decode cX4_kind 23 = .ok (.istore_n 3, 1) := by decide +kernel
theorem dX4_kind_24 : decode cX4_kind 24 = .ok (.bipush 9, 2) := by decide +kernel
theorem dX4_kind_26 : decode cX4_kind 26 = .ok (.istore 4, 2) := by decide +kernel
theorem dX4_kind_28 : decode cX4_kind 28 = .ok (.iconst 0, 1) := by decide +kernel
theorem dX4_kind_29 : decode cX4_kind 29 = .ok (.istore 5, 2) := by decide +kernel
theorem dX4_kind_31 : decode cX4_kind 31 = .ok (.iload 5, 2) := by decide +kernel
theorem dX4_kind_33 : decode cX4_kind 33 = .ok (.bipush 6, 2) := by decide +kernel
theorem dX4_kind_35 : decode cX4_kind 35 = .ok (.if_icmp .ge 51, 3) := by decide +kernel
theorem dX4_kind_38 : decode cX4_kind 38 = .ok (.aload_n 0, 1) := by decide +kernel
theorem dX4_kind_39 : decode cX4_kind 39 = .ok (.invokevirtual 134, 3) := by decide +kernel
theorem dX4_kind_42 : decode cX4_kind 42 = .ok (.astore 6, 2) := by decide +kernel
theorem dX4_kind_44 : decode cX4_kind 44 = .ok (.aload 6, 2) := by decide +kernel
theorem dX4_kind_46 : decode cX4_kind 46 = .ok (.getfield 108, 3) := by decide +kernel
theorem dX4_kind_49 : decode cX4_kind 49 = .ok (.iload_n 1, 1) := by decide +kernel
theorem dX4_kind_50 : decode cX4_kind 50 = .ok (.iload 5, 2) := by decide +kernel
theorem dX4_kind_52 : decode cX4_kind 52 = .ok (.iastore, 1) := by decide +kernel
theorem dX4_kind_53 : decode cX4_kind 53 = .ok (.aload 6, 2) := by decide +kernel
theorem dX4_kind_55 : decode cX4_kind 55 = .ok (.iload_n 2, 1) := by decide +kernel
theorem dX4_kind_56 : decode cX4_kind 56 = .ok (.invokevirtual 130, 3) := by decide +kernel
theorem dX4_kind_59 : decode cX4_kind 59 = .ok (.aload 6, 2) := by decide +kernel
theorem dX4_kind_61 : decode cX4_kind 61 = .ok (.invokevirtual 138, 3) := by decide +kernel
theorem dX4_kind_64 : decode cX4_kind 64 = .ok (.istore 7, 2) := by decide +kernel
theorem dX4_kind_66 : decode cX4_kind 66 = .ok (.iload 7, 2) := by decide +kernel
theorem dX4_kind_68 : decode cX4_kind 68 = .ok (.iload 4, 2) := by decide +kernel
theorem dX4_kind_70 : decode cX4_kind 70 = .ok (.if_icmp .ge 10, 3) := by decide +kernel
theorem dX4_kind_73 : decode cX4_kind 73 = .ok (.iload 7, 2) := by decide +kernel
theorem dX4_kind_75 : decode cX4_kind 75 = .ok (.istore 4, 2) := by decide +kernel
theorem dX4_kind_77 : decode cX4_kind 77 = .ok (.iload 5, 2) := by decide +kernel
theorem dX4_kind_79 : decode cX4_kind 79 = .ok (.istore_n 3, 1) := by decide +kernel
theorem dX4_kind_80 : decode cX4_kind 80 = .ok (.iinc 5 1, 3) := by decide +kernel
theorem dX4_kind_83 : decode cX4_kind 83 = .ok (.goto (-52), 3) := by decide +kernel
theorem dX4_kind_86 : decode cX4_kind 86 = .ok (.iload_n 3, 1) := by decide +kernel
theorem dX4_kind_87 : decode cX4_kind 87 = .ok (.ireturn, 1) := by decide +kernel
set_option maxRecDepth 20000 in
theorem ggX4_far_X4_isPerson : GoodIn wsX4_far wsX4_isPerson := goodIn_r _ [8, 9, 10, 11, 12, 7, 13, 123, 124, 125, 126, 127, 128, 129, 112, 113, 114, 115, 116, 117, 118, 119, 120, 121, 122] (by decide +kernel) (by decide +kernel)
set_option maxRecDepth 20000 in
theorem gX4_far_X4_isPerson : GoodIn wsX4_far (wsV RX4 95 RX4 yX4_isPerson wsX4_isPerson) := goodIn_app (goodIn_of _ (by decide +kernel)) ggX4_far_X4_isPerson
set_option maxRecDepth 20000 in
theorem ggX4_far_X4_isWeighed : GoodIn wsX4_far wsX4_isWeighed := goodIn_r _ [16, 11, 12, 7, 13] (by decide +kernel) (by decide +kernel)
set_option maxRecDepth 20000 in
theorem gX4_far_X4_isWeighed : GoodIn wsX4_far (va_wsS RX4 153 yX4_isWeighed wsX4_isWeighed) := goodIn_app (goodIn_of _ (by decide +kernel)) ggX4_far_X4_isWeighed
set_option maxRecDepth 20000 in
theorem ggX4_far_X4_found : GoodIn wsX4_far wsX4_found := goodIn_r _ [20, 1, 21, 11, 12, 7, 13, 123, 124, 125, 126, 127, 128, 129] (by decide +kernel) (by decide +kernel)
set_option maxRecDepth 20000 in
theorem gX4_far_X4_found : GoodIn wsX4_far (wsV RX4 56 RX4 yX4_found wsX4_found) := goodIn_app (goodIn_of _ (by decide +kernel)) ggX4_far_X4_found
set_option maxRecDepth 20000 in
theorem ggX4_far_X4_freshTrial : GoodIn wsX4_far wsX4_freshTrial := goodIn_r _ [25, 26, 9, 27, 28, 29, 30, 31, 32, 33, 34, 35, 36, 37, 38, 39, 40, 41, 42, 43, 44, 45, 46, 123, 124, 125, 126, 127, 128, 129, 112, 113, 114, 115, 116, 117, 118, 119, 120, 121, 122] (by decide +kernel) (by decide +kernel)
set_option maxRecDepth 20000 in
theorem gX4_far_X4_freshTrial : GoodIn wsX4_far (wsV RX4 134 RX4 yX4_freshTrial wsX4_freshTrial) := goodIn_app (goodIn_of _ (by decide +kernel)) ggX4_far_X4_freshTrial
set_option maxRecDepth 20000 in
theorem ggX4_far_X1_firstIn : GoodIn wsX4_far wsX1_firstIn := goodIn_r _ [50, 45, 51, 52, 53, 30, 54, 34, 36, 44, 42, 55, 56, 57, 58, 59, 60, 61, 62, 63, 64, 65, 66, 67, 68, 69, 70, 37, 43, 71, 72, 73, 74, 75, 76, 77, 78, 79, 80, 81, 82, 46, 83, 84, 85, 86, 87, 88, 89, 35, 90, 91, 92, 93, 94, 95, 96, 97, 98, 99, 100, 101, 102, 103, 104, 105, 106, 107, 108, 33, 109, 110, 111, 112, 113, 114, 115, 116, 117, 118, 119, 120, 121, 122] (by decide +kernel) (by decide +kernel)
set_option maxRecDepth 20000 in
theorem gX4_far_X1_firstIn : GoodIn wsX4_far (wsV RX4 141 RX1 yX1_firstIn wsX1_firstIn) := goodIn_app (goodIn_of _ (by decide +kernel)) ggX4_far_X1_firstIn
theorem dX4_far_0 : decode cX4_far 0 = .ok (.aload_n 0, 1) := by decide +kernel
theorem dX4_far_1 : decode cX4_far 1 = .ok (.iload_n 1, 1) := by decide +kernel
theorem dX4_far_2 : decode cX4_far 2 = .ok (.invokevirtual 95, 3) := by decide +kernel
theorem dX4_far_5 : decode cX4_far 5 = .ok (.ifCond .eq 10, 3) := by decide +kernel
theorem dX4_far_8 : decode cX4_far 8 = .ok (.iload_n 2, 1) := by decide +kernel
theorem dX4_far_9 : decode cX4_far 9 = .ok (.invokestatic 153, 3) := by decide +kernel
theorem dX4_far_12 : decode cX4_far 12 = .ok (.ifCond .ne 10, 3) := by decide +kernel
theorem dX4_far_15 : decode cX4_far 15 = .ok (.aload_n 0, 1) := by decide +kernel
theorem dX4_far_16 : decode cX4_far 16 = .ok (.ldc 55, 2) := by decide +kernel
theorem dX4_far_18 : decode cX4_far 18 = .ok (.invokevirtual 56, 3) := by decide +kernel
theorem dX4_far_21 : decode cX4_far 21 = .ok (.ireturn, 1) := by decide +kernel
theorem dX4_far_22 : decode cX4_far 22 = .ok (.sipush 199, 3) := by decide +kernel
theorem dX4_far_25 : decode cX4_far 25 = .ok (.istore_n 3, 1) := by decide +kernel
theorem dX4_far_26 : decode cX4_far 26 = .ok (.iload_n 3, 1) := by decide +kernel
theorem dX4_far_27 : decode cX4_far 27 = .ok (.ifCond .lt 35, 3) := by decide +kernel
theorem dX4_far_30 : decode cX4_far 30 = .ok (.aload_n 0, 1) := by decide +kernel
theorem dX4_far_31 : decode cX4_far 31 = .ok (.invokevirtual 134, 3) := by decide +kernel
theorem dX4_far_34 : decode cX4_far 34 = .ok (.astore 4, 2) := by decide +kernel
theorem dX4_far_36 : decode cX4_far 36 = .ok (.aload 4, 2) := by decide +kernel
theorem dX4_far_38 : decode cX4_far 38 = .ok (.getfield 116, 3) := by decide +kernel
theorem dX4_far_41 : decode cX4_far 41 = .ok (.iload_n 1, 1) := by decide +kernel
theorem dX4_far_42 : decode cX4_far 42 = .ok (.iload_n 3, 1) := by decide +kernel
theorem dX4_far_43 : decode cX4_far 43 = .ok (.iastore, 1) := by decide +kernel
theorem dX4_far_44 : decode cX4_far 44 = .ok (.aload 4, 2) := by decide +kernel
theorem dX4_far_46 : decode cX4_far 46 = .ok (.iload_n 1, 1) := by decide +kernel
theorem dX4_far_47 : decode cX4_far 47 = .ok (.iload_n 2, 1) := by decide +kernel
theorem dX4_far_48 : decode cX4_far 48 = .ok (.invokevirtual 141, 3) := by decide +kernel
theorem dX4_far_51 : decode cX4_far 51 = .ok (.ifCond .lt 5, 3) := by decide +kernel
theorem dX4_far_54 : decode cX4_far 54 = .ok (.iload_n 3, 1) := by decide +kernel
theorem dX4_far_55 : decode cX4_far 55 = .ok (.ireturn, 1) := by decide +kernel
theorem dX4_far_56 : decode cX4_far 56 = .ok (.iinc 3 (-1), 3) := by decide +kernel
theorem dX4_far_59 : decode cX4_far 59 = .ok (.goto (-33), 3) := by decide +kernel
theorem dX4_far_62 : decode cX4_far 62 = .ok (.aload_n 0, 1) := by decide +kernel
theorem dX4_far_63 : decode cX4_far 63 = .ok (.ldc 156, 2) := by decide +kernel
theorem dX4_far_65 : decode cX4_far 65 = .ok (.invokevirtual 56, 3) := by decide +kernel
theorem dX4_far_68 : decode cX4_far 68 = .ok (.ireturn, 1) := by decide +kernel
set_option maxRecDepth 20000 in
theorem ggX4_order_X4_isWeighed : GoodIn wsX4_order wsX4_isWeighed := goodIn_r _ [7, 8, 9, 6, 10] (by decide +kernel) (by decide +kernel)
set_option maxRecDepth 20000 in
theorem gX4_order_X4_isWeighed : GoodIn wsX4_order (va_wsS RX4 153 yX4_isWeighed wsX4_isWeighed) := goodIn_app (goodIn_of _ (by decide +kernel)) ggX4_order_X4_isWeighed
set_option maxRecDepth 20000 in
theorem ggX4_order_X4_found : GoodIn wsX4_order wsX4_found := goodIn_r _ [14, 1, 15, 8, 9, 6, 10, 130, 131, 132, 133, 134, 135, 136] (by decide +kernel) (by decide +kernel)
set_option maxRecDepth 20000 in
theorem gX4_order_X4_found : GoodIn wsX4_order (wsV RX4 56 RX4 yX4_found wsX4_found) := goodIn_app (goodIn_of _ (by decide +kernel)) ggX4_order_X4_found
set_option maxRecDepth 20000 in
theorem ggX4_order_X4_freshTrial : GoodIn wsX4_order wsX4_freshTrial := goodIn_r _ [19, 20, 2, 21, 22, 23, 24, 25, 26, 27, 28, 29, 30, 31, 32, 33, 34, 35, 36, 37, 38, 39, 40, 130, 131, 132, 133, 134, 135, 136, 137, 138, 139, 140, 141, 142, 143, 144, 145, 146, 147] (by decide +kernel) (by decide +kernel)
set_option maxRecDepth 20000 in
theorem gX4_order_X4_freshTrial : GoodIn wsX4_order (wsV RX4 134 RX4 yX4_freshTrial wsX4_freshTrial) := goodIn_app (goodIn_of _ (by decide +kernel)) ggX4_order_X4_freshTrial
set_option maxRecDepth 20000 in
theorem ggX4_order_X1_goOn : GoodIn wsX4_order wsX1_goOn := goodIn_r _ [44, 26, 45, 46, 47, 24, 48, 28, 30, 39, 38, 36, 49, 50, 51, 52, 53, 54, 55, 56, 57, 58, 59, 60, 61, 62, 63, 64, 31, 37, 65, 66, 67, 68, 69, 70, 71, 72, 73, 74, 75, 76, 40, 77, 78, 79, 80, 81, 82, 83, 29, 84, 85, 86, 87, 88, 89, 90, 91, 92, 93, 94, 95, 96, 97, 98, 99, 100, 101, 102, 27, 103, 104, 105, 137, 138, 139, 140, 141, 142, 143, 144, 145, 146, 147] (by decide +kernel) (by decide +kernel)
set_option maxRecDepth 20000 in
theorem gX4_order_X1_goOn : GoodIn wsX4_order (wsV RX4 130 RX1 yX1_goOn wsX1_goOn) := goodIn_app (goodIn_of _ (by decide +kernel)) ggX4_order_X1_goOn
set_option maxRecDepth 20000 in
theorem ggX4_order_X1_countLoose : GoodIn wsX4_order wsX1_countLoose := goodIn_r _ [109, 110, 111, 112, 24, 113, 30, 36, 39, 114, 115, 116, 117, 118, 119, 120, 137, 138, 139, 140, 141, 142, 143, 144, 145, 146, 147] (by decide +kernel) (by decide +kernel)
set_option maxRecDepth 20000 in
theorem gX4_order_X1_countLoose : GoodIn wsX4_order (wsV RX4 138 RX1 yX1_countLoose wsX1_countLoose) := goodIn_app (goodIn_of _ (by decide +kernel)) ggX4_order_X1_countLoose
set_option maxRecDepth 20000 in
theorem ggX4_order_X1_changePlaces : GoodIn wsX4_order wsX1_changePlaces := goodIn_r _ [124, 38, 137, 138, 139, 140, 141, 142, 143, 144, 145, 146, 147] (by decide +kernel) (by decide +kernel)
set_option maxRecDepth 20000 in
theorem gX4_order_X1_changePlaces : GoodIn wsX4_order (wsV RX4 160 RX1 yX1_changePlaces wsX1_changePlaces) := goodIn_app (goodIn_of _ (by decide +kernel)) ggX4_order_X1_changePlaces
set_option maxRecDepth 20000 in
theorem ggX4_order_X4_orNone : GoodIn wsX4_order wsX4_orNone := goodIn_r _ [128, 129, 11, 12, 13, 6, 14, 1, 15, 8, 9, 10, 130, 131, 132, 133, 134, 135, 136] (by decide +kernel) (by decide +kernel)
set_option maxRecDepth 20000 in
theorem gX4_order_X4_orNone : GoodIn wsX4_order (wsV RX4 144 RX4 yX4_orNone wsX4_orNone) := goodIn_app (goodIn_of _ (by decide +kernel)) ggX4_order_X4_orNone
theorem dX4_order_0 : decode cX4_order 0 = .ok (.iload_n 1, 1) := by decide +kernel
theorem dX4_order_1 : decode cX4_order 1 = .ok (.invokestatic 153, 3) := by decide +kernel
theorem dX4_order_4 : decode cX4_order 4 = .ok (.ifCond .ne 10, 3) := by decide +kernel
theorem dX4_order_7 : decode cX4_order 7 = .ok (.aload_n 0, 1) := by decide +kernel
theorem dX4_order_8 : decode cX4_order 8 = .ok (.ldc 55, 2) := by decide +kernel
theorem dX4_order_10 : decode cX4_order 10 = .ok (.invokevirtual 56, 3) := by decide +kernel
theorem dX4_order_13 : decode cX4_order 13 = .ok (.ireturn, 1) := by decide +kernel
theorem dX4_order_14 : decode cX4_order 14 = .ok (.iconst (-1), 1) := by decide +kernel
theorem dX4_order_15 : decode cX4_order 15 = .ok (.istore_n 2, 1) := by decide +kernel
theorem dX4_order_16 : decode cX4_order 16 = .ok (.aload_n 0, 1) := by decide +kernel
theorem dX4_order_17 : decode cX4_order 17 = .ok (.invokevirtual 134, 3) := by decide +kernel
theorem dX4_order_20 : decode cX4_order 20 = .ok (.astore_n 3, 1) := by decide +kernel
theorem dX4_order_21 : decode cX4_order 21 = .ok (.aload_n 3, 1) := by decide +kernel
theorem dX4_order_22 : decode cX4_order 22 = .ok (.iload_n 1, 1) := by decide +kernel
theorem dX4_order_23 : decode cX4_order 23 = .ok (.invokevirtual 130, 3) := by decide +kernel
theorem dX4_order_26 : decode cX4_order 26 = .ok (.aload_n 3, 1) := by decide +kernel
theorem dX4_order_27 : decode cX4_order 27 = .ok (.invokevirtual 138, 3) := by decide +kernel
theorem dX4_order_30 : decode cX4_order 30 = .ok (.istore 4, 2) := by decide +kernel
theorem dX4_order_32 : decode cX4_order 32 = .ok (.iconst 0, 1) := by decide +kernel
theorem dX4_order_33 : decode cX4_order 33 = .ok (.istore 5, 2) := by decide +kernel
theorem dX4_order_35 : decode cX4_order 35 = .ok (.iload 5, 2) := by decide +kernel
theorem dX4_order_37 : decode cX4_order 37 = .ok (.aload_n 0, 1) := by decide +kernel
theorem dX4_order_38 : decode cX4_order 38 = .ok (.getfield 10, 3) := by decide +kernel
theorem dX4_order_41 : decode cX4_order 41 = .ok (.getfield 157, 3) := by decide +kernel
theorem dX4_order_44 : decode cX4_order 44 = .ok (.if_icmp .ge 81, 3) := by decide +kernel
theorem dX4_order_47 : decode cX4_order 47 = .ok (.iload 5, 2) := by decide +kernel
theorem dX4_order_49 : decode cX4_order 49 = .ok (.iconst 1, 1) := by decide +kernel
theorem dX4_order_50 : decode cX4_order 50 = .ok (.iadd, 1) := by decide +kernel
theorem dX4_order_51 : decode cX4_order 51 = .ok (.istore 6, 2) := by decide +kernel
theorem dX4_order_53 : decode cX4_order 53 = .ok (.iload 6, 2) := by decide +kernel
theorem dX4_order_55 : decode cX4_order 55 = .ok (.aload_n 0, 1) := by decide +kernel
theorem dX4_order_56 : decode cX4_order 56 = .ok (.getfield 10, 3) := by decide +kernel
theorem dX4_order_59 : decode cX4_order 59 = .ok (.getfield 157, 3) := by decide +kernel
theorem dX4_order_62 : decode cX4_order 62 = .ok (.if_icmp .ge 57, 3) := by decide +kernel
theorem dX4_order_65 : decode cX4_order 65 = .ok (.aload_n 0, 1) := by decide +kernel
theorem dX4_order_66 : decode cX4_order 66 = .ok (.invokevirtual 134, 3) := by decide +kernel
theorem dX4_order_69 : decode cX4_order 69 = .ok (.astore 7, 2) := by decide +kernel
theorem dX4_order_71 : decode cX4_order 71 = .ok (.aload 7, 2) := by decide +kernel
theorem dX4_order_73 : decode cX4_order 73 = .ok (.iload 5, 2) := by decide +kernel
theorem dX4_order_75 : decode cX4_order 75 = .ok (.iload 6, 2) := by decide +kernel
theorem dX4_order_77 : decode cX4_order 77 = .ok (.invokevirtual 160, 3) := by decide +kernel
theorem dX4_order_80 : decode cX4_order 80 = .ok (.aload 7, 2) := by decide +kernel
theorem dX4_order_82 : decode cX4_order 82 = .ok (.iload_n 1, 1) := by decide +kernel
theorem dX4_order_83 : decode cX4_order 83 = .ok (.invokevirtual 130, 3) := by decide +kernel
theorem dX4_order_86 : decode cX4_order 86 = .ok (.aload 7, 2) := by decide +kernel
theorem dX4_order_88 : decode cX4_order 88 = .ok (.invokevirtual 138, 3) := by decide +kernel
theorem dX4_order_91 : decode cX4_order 91 = .ok (.istore 8, 2) := by decide +kernel
theorem dX4_order_93 : decode cX4_order 93 = .ok (.iload 8, 2) := by decide +kernel
theorem dX4_order_95 : decode cX4_order 95 = .ok (.iload 4, 2) := by decide +kernel
theorem dX4_order_97 : decode cX4_order 97 = .ok (.if_icmp .ge 16, 3) := by decide +kernel
theorem dX4_order_100 : decode cX4_order 100 = .ok (.iload 8, 2) := by decide +kernel
theorem dX4_order_102 : decode cX4_order 102 = .ok (.istore 4, 2) := by decide +kernel
theorem dX4_order_104 : decode cX4_order 104 = .ok (.bipush 10, 2) := by decide +kernel
theorem dX4_order_106 : decode cX4_order 106 = .ok (.iload 5, 2) := by decide +kernel
theorem dX4_order_108 : decode cX4_order 108 = .ok (.imul, 1) := by decide +kernel
theorem dX4_order_109 : decode cX4_order 109 = .ok (.iload 6, 2) := by decide +kernel
theorem dX4_order_111 : decode cX4_order 111 = .ok (.iadd, 1) := by decide +kernel
theorem dX4_order_112 : decode cX4_order 112 = .ok (.istore_n 2, 1) := by decide +kernel
theorem dX4_order_113 : decode cX4_order 113 = .ok (.iinc 6 1, 3) := by decide +kernel
theorem dX4_order_116 : decode cX4_order 116 = .ok (.goto (-63), 3) := by decide +kernel
theorem dX4_order_119 : decode cX4_order 119 = .ok (.iinc 5 1, 3) := by decide +kernel
theorem dX4_order_122 : decode cX4_order 122 = .ok (.goto (-87), 3) := by decide +kernel
theorem dX4_order_125 : decode cX4_order 125 = .ok (.aload_n 0, 1) := by decide +kernel
theorem dX4_order_126 : decode cX4_order 126 = .ok (.iload_n 2, 1) := by decide +kernel
theorem dX4_order_127 : decode cX4_order 127 = .ok (.invokevirtual 144, 3) := by decide +kernel
theorem dX4_order_130 : decode cX4_order 130 = .ok (.ireturn, 1) := by decide +kernel
set_option maxRecDepth 20000 in
theorem ggX4_take_X4_isWeighed : GoodIn wsX4_take wsX4_isWeighed := goodIn_r _ [9, 10, 11, 8, 12] (by decide +kernel) (by decide +kernel)
set_option maxRecDepth 20000 in
theorem gX4_take_X4_isWeighed : GoodIn wsX4_take (va_wsS RX4 153 yX4_isWeighed wsX4_isWeighed) := goodIn_app (goodIn_of _ (by decide +kernel)) ggX4_take_X4_isWeighed
set_option maxRecDepth 20000 in
theorem ggX4_take_X4_found : GoodIn wsX4_take wsX4_found := goodIn_r _ [16, 1, 17, 10, 11, 8, 12, 117, 118, 119, 120, 121, 122, 123] (by decide +kernel) (by decide +kernel)
set_option maxRecDepth 20000 in
theorem gX4_take_X4_found : GoodIn wsX4_take (wsV RX4 56 RX4 yX4_found wsX4_found) := goodIn_app (goodIn_of _ (by decide +kernel)) ggX4_take_X4_found
set_option maxRecDepth 20000 in
theorem ggX4_take_X4_freshTrial : GoodIn wsX4_take wsX4_freshTrial := goodIn_r _ [21, 22, 2, 23, 24, 25, 26, 27, 28, 29, 30, 31, 32, 33, 34, 35, 36, 37, 38, 39, 40, 41, 42, 117, 118, 119, 120, 121, 122, 123, 124, 125, 126, 127, 128, 129, 130, 131, 132, 133, 134] (by decide +kernel) (by decide +kernel)
set_option maxRecDepth 20000 in
theorem gX4_take_X4_freshTrial : GoodIn wsX4_take (wsV RX4 134 RX4 yX4_freshTrial wsX4_freshTrial) := goodIn_app (goodIn_of _ (by decide +kernel)) ggX4_take_X4_freshTrial
set_option maxRecDepth 20000 in
theorem ggX4_take_X1_goOn : GoodIn wsX4_take wsX1_goOn := goodIn_r _ [46, 28, 47, 48, 49, 26, 50, 30, 32, 41, 40, 38, 51, 52, 53, 54, 55, 56, 57, 58, 59, 60, 61, 62, 63, 64, 65, 66, 33, 39, 67, 68, 69, 70, 71, 72, 73, 74, 75, 76, 77, 78, 42, 79, 80, 81, 82, 83, 84, 85, 31, 86, 87, 88, 89, 90, 91, 92, 93, 94, 95, 96, 97, 98, 99, 100, 101, 102, 103, 104, 29, 105, 106, 107, 124, 125, 126, 127, 128, 129, 130, 131, 132, 133, 134] (by decide +kernel) (by decide +kernel)
set_option maxRecDepth 20000 in
theorem gX4_take_X1_goOn : GoodIn wsX4_take (wsV RX4 130 RX1 yX1_goOn wsX1_goOn) := goodIn_app (goodIn_of _ (by decide +kernel)) ggX4_take_X1_goOn
set_option maxRecDepth 20000 in
theorem ggX4_take_X1_sumOf : GoodIn wsX4_take wsX1_sumOf := goodIn_r _ [111, 32, 124, 125, 126, 127, 128, 129, 130, 131, 132, 133, 134] (by decide +kernel) (by decide +kernel)
set_option maxRecDepth 20000 in
theorem gX4_take_X1_sumOf : GoodIn wsX4_take (wsV RX4 76 RX1 yX1_sumOf wsX1_sumOf) := goodIn_app (goodIn_of _ (by decide +kernel)) ggX4_take_X1_sumOf
set_option maxRecDepth 20000 in
theorem ggX4_take_X4_orNone : GoodIn wsX4_take wsX4_orNone := goodIn_r _ [115, 116, 13, 14, 15, 8, 16, 1, 17, 10, 11, 12, 117, 118, 119, 120, 121, 122, 123] (by decide +kernel) (by decide +kernel)
set_option maxRecDepth 20000 in
theorem gX4_take_X4_orNone : GoodIn wsX4_take (wsV RX4 144 RX4 yX4_orNone wsX4_orNone) := goodIn_app (goodIn_of _ (by decide +kernel)) ggX4_take_X4_orNone
theorem dX4_take_0 : decode cX4_take 0 = .ok (.iload_n 1, 1) := by decide +kernel
theorem dX4_take_1 : decode cX4_take 1 = .ok (.invokestatic 153, 3) := by decide +kernel
theorem dX4_take_4 : decode cX4_take 4 = .ok (.ifCond .ne 10, 3) := by decide +kernel
theorem dX4_take_7 : decode cX4_take 7 = .ok (.aload_n 0, 1) := by decide +kernel
theorem dX4_take_8 : decode cX4_take 8 = .ok (.ldc 55, 2) := by decide +kernel
theorem dX4_take_10 : decode cX4_take 10 = .ok (.invokevirtual 56, 3) := by decide +kernel
theorem dX4_take_13 : decode cX4_take 13 = .ok (.ireturn, 1) := by decide +kernel
theorem dX4_take_14 : decode cX4_take 14 = .ok (.iconst (-1), 1) := by decide +kernel
theorem dX4_take_15 : decode cX4_take 15 = .ok (.istore_n 2, 1) := by decide +kernel
theorem dX4_take_16 : decode cX4_take 16 = .ok (.bipush 9, 2) := by decide +kernel
theorem dX4_take_18 : decode cX4_take 18 = .ok (.istore_n 3, 1) := by decide +kernel
theorem dX4_take_19 : decode cX4_take 19 = .ok (.iconst 0, 1) := by decide +kernel
theorem dX4_take_20 : decode cX4_take 20 = .ok (.istore 4, 2) := by decide +kernel
theorem dX4_take_22 : decode cX4_take 22 = .ok (.iload 4, 2) := by decide +kernel
theorem dX4_take_24 : decode cX4_take 24 = .ok (.aload_n 0, 1) := by decide +kernel
theorem dX4_take_25 : decode cX4_take 25 = .ok (.getfield 10, 3) := by decide +kernel
theorem dX4_take_28 : decode cX4_take 28 = .ok (.getfield 157, 3) := by decide +kernel
theorem dX4_take_31 : decode cX4_take 31 = .ok (.if_icmp .ge 68, 3) := by decide +kernel
theorem dX4_take_34 : decode cX4_take 34 = .ok (.aload_n 0, 1) := by decide +kernel
theorem dX4_take_35 : decode cX4_take 35 = .ok (.getfield 10, 3) := by decide +kernel
theorem dX4_take_38 : decode cX4_take 38 = .ok (.getfield 164, 3) := by decide +kernel
theorem dX4_take_41 : decode cX4_take 41 = .ok (.iload 4, 2) := by decide +kernel
theorem dX4_take_43 : decode cX4_take 43 = .ok (.iaload, 1) := by decide +kernel
theorem dX4_take_44 : decode cX4_take 44 = .ok (.iconst 1, 1) := by decide +kernel
theorem dX4_take_45 : decode cX4_take 45 = .ok (.if_icmp .ne 48, 3) := by decide +kernel
theorem dX4_take_48 : decode cX4_take 48 = .ok (.aload_n 0, 1) := by decide +kernel
theorem dX4_take_49 : decode cX4_take 49 = .ok (.invokevirtual 134, 3) := by decide +kernel
theorem dX4_take_52 : decode cX4_take 52 = .ok (.astore 5, 2) := by decide +kernel
theorem dX4_take_54 : decode cX4_take 54 = .ok (.aload 5, 2) := by decide +kernel
theorem dX4_take_56 : decode cX4_take 56 = .ok (.getfield 164, 3) := by decide +kernel
theorem dX4_take_59 : decode cX4_take 59 = .ok (.iload 4, 2) := by decide +kernel
theorem dX4_take_61 : decode cX4_take 61 = .ok (.iconst 0, 1) := by decide +kernel
theorem dX4_take_62 : decode cX4_take 62 = .ok (.iastore, 1) := by decide +kernel
theorem dX4_take_63 : decode cX4_take 63 = .ok (.aload 5, 2) := by decide +kernel
theorem dX4_take_65 : decode cX4_take 65 = .ok (.iload_n 1, 1) := by decide +kernel
theorem dX4_take_66 : decode cX4_take 66 = .ok (.invokevirtual 130, 3) := by decide +kernel
theorem dX4_take_69 : decode cX4_take 69 = .ok (.aload 5, 2) := by decide +kernel
theorem dX4_take_71 : decode cX4_take 71 = .ok (.aload 5, 2) := by decide +kernel
theorem dX4_take_73 : decode cX4_take 73 = .ok (.getfield 167, 3) := by decide +kernel
theorem dX4_take_76 : decode cX4_take 76 = .ok (.invokevirtual 76, 3) := by decide +kernel
theorem dX4_take_79 : decode cX4_take 79 = .ok (.istore 6, 2) := by decide +kernel
theorem dX4_take_81 : decode cX4_take 81 = .ok (.iload 6, 2) := by decide +kernel
theorem dX4_take_83 : decode cX4_take 83 = .ok (.iload_n 3, 1) := by decide +kernel
theorem dX4_take_84 : decode cX4_take 84 = .ok (.if_icmp .ge 9, 3) := by decide +kernel
theorem dX4_take_87 : decode cX4_take 87 = .ok (.iload 6, 2) := by decide +kernel
theorem dX4_take_89 : decode cX4_take 89 = .ok (.istore_n 3, 1) := by decide +kernel
theorem dX4_take_90 : decode cX4_take 90 = .ok (.iload 4, 2) := by decide +kernel
theorem dX4_take_92 : decode cX4_take 92 = .ok (.istore_n 2, 1) := by decide +kernel
theorem dX4_take_93 : decode cX4_take 93 = .ok (.iinc 4 1, 3) := by decide +kernel
theorem dX4_take_96 : decode cX4_take 96 = .ok (.goto (-74), 3) := by decide +kernel
theorem dX4_take_99 : decode cX4_take 99 = .ok (.aload_n 0, 1) := by decide +kernel
theorem dX4_take_100 : decode cX4_take 100 = .ok (.iload_n 2, 1) := by decide +kernel
theorem dX4_take_101 : decode cX4_take 101 = .ok (.invokevirtual 144, 3) := by decide +kernel
theorem dX4_take_104 : decode cX4_take 104 = .ok (.ireturn, 1) := by decide +kernel
set_option maxRecDepth 20000 in
theorem ggX4_load_X4_isPerson : GoodIn wsX4_load wsX4_isPerson := goodIn_r _ [8, 9, 10, 11, 12, 7, 13, 123, 124, 125, 126, 127, 128, 129, 112, 113, 114, 115, 116, 117, 118, 119, 120, 121, 122] (by decide +kernel) (by decide +kernel)
set_option maxRecDepth 20000 in
theorem gX4_load_X4_isPerson : GoodIn wsX4_load (wsV RX4 95 RX4 yX4_isPerson wsX4_isPerson) := goodIn_app (goodIn_of _ (by decide +kernel)) ggX4_load_X4_isPerson
set_option maxRecDepth 20000 in
theorem ggX4_load_X4_isWeighed : GoodIn wsX4_load wsX4_isWeighed := goodIn_r _ [16, 11, 12, 7, 13] (by decide +kernel) (by decide +kernel)
set_option maxRecDepth 20000 in
theorem gX4_load_X4_isWeighed : GoodIn wsX4_load (va_wsS RX4 153 yX4_isWeighed wsX4_isWeighed) := goodIn_app (goodIn_of _ (by decide +kernel)) ggX4_load_X4_isWeighed
set_option maxRecDepth 20000 in
theorem ggX4_load_X4_found : GoodIn wsX4_load wsX4_found := goodIn_r _ [20, 1, 21, 11, 12, 7, 13, 123, 124, 125, 126, 127, 128, 129] (by decide +kernel) (by decide +kernel)
set_option maxRecDepth 20000 in
theorem gX4_load_X4_found : GoodIn wsX4_load (wsV RX4 56 RX4 yX4_found wsX4_found) := goodIn_app (goodIn_of _ (by decide +kernel)) ggX4_load_X4_found
set_option maxRecDepth 20000 in
theorem ggX4_load_X4_freshTrial : GoodIn wsX4_load wsX4_freshTrial := goodIn_r _ [25, 26, 9, 27, 28, 29, 30, 31, 32, 33, 34, 35, 36, 37, 38, 39, 40, 41, 42, 43, 44, 45, 46, 123, 124, 125, 126, 127, 128, 129, 112, 113, 114, 115, 116, 117, 118, 119, 120, 121, 122] (by decide +kernel) (by decide +kernel)
set_option maxRecDepth 20000 in
theorem gX4_load_X4_freshTrial : GoodIn wsX4_load (wsV RX4 134 RX4 yX4_freshTrial wsX4_freshTrial) := goodIn_app (goodIn_of _ (by decide +kernel)) ggX4_load_X4_freshTrial
set_option maxRecDepth 20000 in
theorem ggX4_load_X1_firstIn : GoodIn wsX4_load wsX1_firstIn := goodIn_r _ [50, 45, 51, 52, 53, 30, 54, 34, 36, 44, 42, 55, 56, 57, 58, 59, 60, 61, 62, 63, 64, 65, 66, 67, 68, 69, 70, 37, 43, 71, 72, 73, 74, 75, 76, 77, 78, 79, 80, 81, 82, 46, 83, 84, 85, 86, 87, 88, 89, 35, 90, 91, 92, 93, 94, 95, 96, 97, 98, 99, 100, 101, 102, 103, 104, 105, 106, 107, 108, 33, 109, 110, 111, 112, 113, 114, 115, 116, 117, 118, 119, 120, 121, 122] (by decide +kernel) (by decide +kernel)
set_option maxRecDepth 20000 in
theorem gX4_load_X1_firstIn : GoodIn wsX4_load (wsV RX4 141 RX1 yX1_firstIn wsX1_firstIn) := goodIn_app (goodIn_of _ (by decide +kernel)) ggX4_load_X1_firstIn
theorem dX4_load_0 : decode cX4_load 0 = .ok (.aload_n 0, 1) := by decide +kernel
theorem dX4_load_1 : decode cX4_load 1 = .ok (.iload_n 1, 1) := by decide +kernel
theorem dX4_load_2 : decode cX4_load 2 = .ok (.invokevirtual 95, 3) := by decide +kernel
theorem dX4_load_5 : decode cX4_load 5 = .ok (.ifCond .eq 10, 3) := by decide +kernel
theorem dX4_load_8 : decode cX4_load 8 = .ok (.iload_n 2, 1) := by decide +kernel
theorem dX4_load_9 : decode cX4_load 9 = .ok (.invokestatic 153, 3) := by decide +kernel
theorem dX4_load_12 : decode cX4_load 12 = .ok (.ifCond .ne 10, 3) := by decide +kernel
theorem dX4_load_15 : decode cX4_load 15 = .ok (.aload_n 0, 1) := by decide +kernel
theorem dX4_load_16 : decode cX4_load 16 = .ok (.ldc 55, 2) := by decide +kernel
theorem dX4_load_18 : decode cX4_load 18 = .ok (.invokevirtual 56, 3) := by decide +kernel
theorem dX4_load_21 : decode cX4_load 21 = .ok (.ireturn, 1) := by decide +kernel
theorem dX4_load_22 : decode cX4_load 22 = .ok (.iconst 0, 1) := by decide +kernel
theorem dX4_load_23 : decode cX4_load 23 = .ok (.istore_n 3, 1) := by decide +kernel
theorem dX4_load_24 : decode cX4_load 24 = .ok (.iload_n 3, 1) := by decide +kernel
theorem dX4_load_25 : decode cX4_load 25 = .ok (.bipush 9, 2) := by decide +kernel
theorem dX4_load_27 : decode cX4_load 27 = .ok (.if_icmp .gt 35, 3) := by decide +kernel
theorem dX4_load_30 : decode cX4_load 30 = .ok (.aload_n 0, 1) := by decide +kernel
theorem dX4_load_31 : decode cX4_load 31 = .ok (.invokevirtual 134, 3) := by decide +kernel
theorem dX4_load_34 : decode cX4_load 34 = .ok (.astore 4, 2) := by decide +kernel
theorem dX4_load_36 : decode cX4_load 36 = .ok (.aload 4, 2) := by decide +kernel
theorem dX4_load_38 : decode cX4_load 38 = .ok (.getfield 170, 3) := by decide +kernel
theorem dX4_load_41 : decode cX4_load 41 = .ok (.iload_n 1, 1) := by decide +kernel
theorem dX4_load_42 : decode cX4_load 42 = .ok (.iload_n 3, 1) := by decide +kernel
theorem dX4_load_43 : decode cX4_load 43 = .ok (.iastore, 1) := by decide +kernel
theorem dX4_load_44 : decode cX4_load 44 = .ok (.aload 4, 2) := by decide +kernel
theorem dX4_load_46 : decode cX4_load 46 = .ok (.iload_n 1, 1) := by decide +kernel
theorem dX4_load_47 : decode cX4_load 47 = .ok (.iload_n 2, 1) := by decide +kernel
theorem dX4_load_48 : decode cX4_load 48 = .ok (.invokevirtual 141, 3) := by decide +kernel
theorem dX4_load_51 : decode cX4_load 51 = .ok (.ifCond .lt 5, 3) := by decide +kernel
theorem dX4_load_54 : decode cX4_load 54 = .ok (.iload_n 3, 1) := by decide +kernel
theorem dX4_load_55 : decode cX4_load 55 = .ok (.ireturn, 1) := by decide +kernel
theorem dX4_load_56 : decode cX4_load 56 = .ok (.iinc 3 1, 3) := by decide +kernel
theorem dX4_load_59 : decode cX4_load 59 = .ok (.goto (-35), 3) := by decide +kernel
theorem dX4_load_62 : decode cX4_load 62 = .ok (.aload_n 0, 1) := by decide +kernel
theorem dX4_load_63 : decode cX4_load 63 = .ok (.ldc 156, 2) := by decide +kernel
theorem dX4_load_65 : decode cX4_load 65 = .ok (.invokevirtual 56, 3) := by decide +kernel
theorem dX4_load_68 : decode cX4_load 68 = .ok (.ireturn, 1) := by decide +kernel
set_option maxRecDepth 20000 in
theorem ggX4_feed_X4_isFrom : GoodIn wsX4_feed wsX4_isFrom := goodIn_r _ [8] (by decide +kernel) (by decide +kernel)
set_option maxRecDepth 20000 in
theorem gX4_feed_X4_isFrom : GoodIn wsX4_feed (va_wsS RX4 44 yX4_isFrom wsX4_isFrom) := goodIn_app (goodIn_of _ (by decide +kernel)) ggX4_feed_X4_isFrom
set_option maxRecDepth 20000 in
theorem ggX4_feed_X4_found : GoodIn wsX4_feed wsX4_found := goodIn_r _ [12, 1, 13, 5, 6, 7, 8, 21, 22, 23, 24, 25, 26, 27] (by decide +kernel) (by decide +kernel)
set_option maxRecDepth 20000 in
theorem gX4_feed_X4_found : GoodIn wsX4_feed (wsV RX4 56 RX4 yX4_found wsX4_found) := goodIn_app (goodIn_of _ (by decide +kernel)) ggX4_feed_X4_found
set_option maxRecDepth 20000 in
theorem ggX4_feed_X3_append : GoodIn wsX4_feed wsX3_append := goodIn_r _ [18, 19, 20, 28, 29, 30, 31, 32, 33] (by decide +kernel) (by decide +kernel)
set_option maxRecDepth 20000 in
theorem gX4_feed_X3_append : GoodIn wsX4_feed (wsV RX4 176 RX3 yX3_append wsX3_append) := goodIn_app (goodIn_of _ (by decide +kernel)) ggX4_feed_X3_append
theorem dX4_feed_0 : decode cX4_feed 0 = .ok (.iconst 1, 1) := by decide +kernel
theorem dX4_feed_1 : decode cX4_feed 1 = .ok (.iconst 4, 1) := by decide +kernel
theorem dX4_feed_2 : decode cX4_feed 2 = .ok (.iload_n 2, 1) := by decide +kernel
theorem dX4_feed_3 : decode cX4_feed 3 = .ok (.invokestatic 44, 3) := by decide +kernel
theorem dX4_feed_6 : decode cX4_feed 6 = .ok (.ifCond .ne 10, 3) := by decide +kernel
theorem dX4_feed_9 : decode cX4_feed 9 = .ok (.aload_n 0, 1) := by decide +kernel
theorem dX4_feed_10 : decode cX4_feed 10 = .ok (.ldc 55, 2) := by decide +kernel
theorem dX4_feed_12 : decode cX4_feed 12 = .ok (.invokevirtual 56, 3) := by decide +kernel
theorem dX4_feed_15 : decode cX4_feed 15 = .ok (.ireturn, 1) := by decide +kernel
theorem dX4_feed_16 : decode cX4_feed 16 = .ok (.aload_n 0, 1) := by decide +kernel
theorem dX4_feed_17 : decode cX4_feed 17 = .ok (.getfield 29, 3) := by decide +kernel
theorem dX4_feed_20 : decode cX4_feed 20 = .ok (.getfield 173, 3) := by decide +kernel
theorem dX4_feed_23 : decode cX4_feed 23 = .ok (.bipush 120, 2) := by decide +kernel
theorem dX4_feed_25 : decode cX4_feed 25 = .ok (.iload_n 2, 1) := by decide +kernel
theorem dX4_feed_26 : decode cX4_feed 26 = .ok (.isub, 1) := by decide +kernel
theorem dX4_feed_27 : decode cX4_feed 27 = .ok (.if_icmp .le 10, 3) := by decide +kernel
theorem dX4_feed_30 : decode cX4_feed 30 = .ok (.aload_n 0, 1) := by decide +kernel
theorem dX4_feed_31 : decode cX4_feed 31 = .ok (.ldc 90, 2) := by decide +kernel
theorem dX4_feed_33 : decode cX4_feed 33 = .ok (.invokevirtual 56, 3) := by decide +kernel
theorem dX4_feed_36 : decode cX4_feed 36 = .ok (.ireturn, 1) := by decide +kernel
theorem dX4_feed_37 : decode cX4_feed 37 = .ok (.aload_n 0, 1) := by decide +kernel
theorem dX4_feed_38 : decode cX4_feed 38 = .ok (.getfield 29, 3) := by decide +kernel
theorem dX4_feed_41 : decode cX4_feed 41 = .ok (.iload_n 1, 1) := by decide +kernel
theorem dX4_feed_42 : decode cX4_feed 42 = .ok (.iload_n 2, 1) := by decide +kernel
theorem dX4_feed_43 : decode cX4_feed 43 = .ok (.invokevirtual 176, 3) := by decide +kernel
theorem dX4_feed_46 : decode cX4_feed 46 = .ok (.aload_n 0, 1) := by decide +kernel
theorem dX4_feed_47 : decode cX4_feed 47 = .ok (.getfield 29, 3) := by decide +kernel
theorem dX4_feed_50 : decode cX4_feed 50 = .ok (.getfield 173, 3) := by decide +kernel
theorem dX4_feed_53 : decode cX4_feed 53 = .ok (.ireturn, 1) := by decide +kernel
theorem dX4_wipe_0 : decode cX4_wipe 0 = .ok (.aload_n 0, 1) := by decide +kernel
theorem dX4_wipe_1 : decode cX4_wipe 1 = .ok (.getfield 29, 3) := by decide +kernel
theorem dX4_wipe_4 : decode cX4_wipe 4 = .ok (.getfield 173, 3) := by decide +kernel
theorem dX4_wipe_7 : decode cX4_wipe 7 = .ok (.istore_n 1, 1) := by decide +kernel
theorem dX4_wipe_8 : decode cX4_wipe 8 = .ok (.aload_n 0, 1) := by decide +kernel
theorem dX4_wipe_9 : decode cX4_wipe 9 = .ok (.getfield 29, 3) := by decide +kernel
theorem dX4_wipe_12 : decode cX4_wipe 12 = .ok (.iconst 0, 1) := by decide +kernel
theorem dX4_wipe_13 : decode cX4_wipe 13 = .ok (.putfield 173, 3) := by decide +kernel
theorem dX4_wipe_16 : decode cX4_wipe 16 = .ok (.iload_n 1, 1) := by decide +kernel
theorem dX4_wipe_17 : decode cX4_wipe 17 = .ok (.ireturn, 1) := by decide +kernel
set_option maxRecDepth 20000 in
theorem ggX4_morning_X4_freshTrial : GoodIn wsX4_morning wsX4_freshTrial := goodIn_r _ [8, 9, 2, 10, 11, 12, 13, 14, 15, 16, 17, 18, 19, 20, 21, 22, 23, 24, 25, 26, 27, 28, 29, 148, 149, 150, 151, 152, 153, 154, 161, 162, 163, 164, 165, 166, 167, 168, 169, 170, 171] (by decide +kernel) (by decide +kernel)
set_option maxRecDepth 20000 in
theorem gX4_morning_X4_freshTrial : GoodIn wsX4_morning (wsV RX4 134 RX4 yX4_freshTrial wsX4_freshTrial) := goodIn_app (goodIn_of _ (by decide +kernel)) ggX4_morning_X4_freshTrial
set_option maxRecDepth 20000 in
theorem ggX4_morning_X3_tellTo : GoodIn wsX4_morning wsX3_tellTo := goodIn_r _ [34, 35, 36, 37, 38, 39, 40, 33, 41, 42, 43, 44, 45, 46, 47, 48, 49, 50, 51, 52, 53, 54, 55, 56, 57, 58, 59, 60, 61, 62, 63, 64, 65, 66, 67, 68, 69, 70, 71, 72, 73, 74, 75, 76, 77, 78, 79, 80, 81, 82, 83, 84, 85, 86, 87, 88, 89, 90, 91, 92, 93, 94, 95, 96, 97, 98, 99, 100, 101, 102, 103, 104, 105, 106, 107, 108, 109, 110, 111, 112, 113, 114, 115, 116, 117, 118, 119, 120, 121, 122, 123, 124, 125, 126, 127, 128, 129, 130, 131, 132, 133, 134, 135, 136, 137, 138, 139, 140, 141, 142, 13, 143, 19, 144, 145, 146, 147, 20, 25, 26, 27, 28, 29, 155, 156, 157, 158, 159, 160, 161, 162, 163, 164, 165, 166, 167, 168, 169, 170, 171] (by decide +kernel) (by decide +kernel)
set_option maxRecDepth 20000 in
theorem gX4_morning_X3_tellTo : GoodIn wsX4_morning (wsV RX4 179 RX3 yX3_tellTo wsX3_tellTo) := goodIn_app (goodIn_of _ (by decide +kernel)) ggX4_morning_X3_tellTo
set_option maxRecDepth 20000 in
theorem ggX4_morning_X1_become : GoodIn wsX4_morning wsX1_become := goodIn_r _ [14, 15, 16, 17, 18, 19, 20, 21, 22, 23, 24, 25, 26, 27, 28, 29, 161, 162, 163, 164, 165, 166, 167, 168, 169, 170, 171] (by decide +kernel) (by decide +kernel)
set_option maxRecDepth 20000 in
theorem gX4_morning_X1_become : GoodIn wsX4_morning (wsV RX4 183 RX1 yX1_become wsX1_become) := goodIn_app (goodIn_of _ (by decide +kernel)) ggX4_morning_X1_become
theorem dX4_morning_0 : decode cX4_morning 0 = .ok (.aload_n 0, 1) := by decide +kernel
theorem dX4_morning_1 : decode cX4_morning 1 = .ok (.invokevirtual 134, 3) := by decide +kernel
theorem dX4_morning_4 : decode cX4_morning 4 = .ok (.astore_n 1, 1) := by decide +kernel
theorem dX4_morning_5 : decode cX4_morning 5 = .ok (.aload_n 0, 1) := by decide +kernel
theorem dX4_morning_6 : decode cX4_morning 6 = .ok (.getfield 29, 3) := by decide +kernel
theorem dX4_morning_9 : decode cX4_morning 9 = .ok (.aload_n 1, 1) := by decide +kernel
theorem dX4_morning_10 : decode cX4_morning 10 = .ok (.invokevirtual 179, 3) := by decide +kernel
theorem dX4_morning_13 : decode cX4_morning 13 = .ok (.istore_n 2, 1) := by decide +kernel
theorem dX4_morning_14 : decode cX4_morning 14 = .ok (.iload_n 2, 1) := by decide +kernel
theorem dX4_morning_15 : decode cX4_morning 15 = .ok (.ifCond .lt 11, 3) := by decide +kernel
theorem dX4_morning_18 : decode cX4_morning 18 = .ok (.aload_n 0, 1) := by decide +kernel
theorem dX4_morning_19 : decode cX4_morning 19 = .ok (.getfield 10, 3) := by decide +kernel
theorem dX4_morning_22 : decode cX4_morning 22 = .ok (.aload_n 1, 1) := by decide +kernel
theorem dX4_morning_23 : decode cX4_morning 23 = .ok (.invokevirtual 183, 3) := by decide +kernel
theorem dX4_morning_26 : decode cX4_morning 26 = .ok (.aload_n 0, 1) := by decide +kernel
theorem dX4_morning_27 : decode cX4_morning 27 = .ok (.getfield 29, 3) := by decide +kernel
theorem dX4_morning_30 : decode cX4_morning 30 = .ok (.iconst 0, 1) := by decide +kernel
theorem dX4_morning_31 : decode cX4_morning 31 = .ok (.putfield 173, 3) := by decide +kernel
theorem dX4_morning_34 : decode cX4_morning 34 = .ok (.iload_n 2, 1) := by decide +kernel
theorem dX4_morning_35 : decode cX4_morning 35 = .ok (.ireturn, 1) := by decide +kernel
set_option maxRecDepth 20000 in
theorem ggX4_sheet_X4_isSheet : GoodIn wsX4_sheet wsX4_isSheet := goodIn_r _ [8, 9, 10, 7, 11] (by decide +kernel) (by decide +kernel)
set_option maxRecDepth 20000 in
theorem gX4_sheet_X4_isSheet : GoodIn wsX4_sheet (va_wsS RX4 187 yX4_isSheet wsX4_isSheet) := goodIn_app (goodIn_of _ (by decide +kernel)) ggX4_sheet_X4_isSheet
set_option maxRecDepth 20000 in
theorem ggX4_sheet_X2_isWidth : GoodIn wsX4_sheet wsX2_isWidth := goodIn_r _ [15] (by decide +kernel) (by decide +kernel)
set_option maxRecDepth 20000 in
theorem gX4_sheet_X2_isWidth : GoodIn wsX4_sheet (va_wsS RX4 190 yX2_isWidth wsX2_isWidth) := goodIn_app (goodIn_of _ (by decide +kernel)) ggX4_sheet_X2_isWidth
set_option maxRecDepth 20000 in
theorem ggX4_sheet_X4_found : GoodIn wsX4_sheet wsX4_found := goodIn_r _ [19, 1, 20, 9, 10, 7, 11, 28, 29, 30, 31, 32, 33, 34] (by decide +kernel) (by decide +kernel)
set_option maxRecDepth 20000 in
theorem gX4_sheet_X4_found : GoodIn wsX4_sheet (wsV RX4 56 RX4 yX4_found wsX4_found) := goodIn_app (goodIn_of _ (by decide +kernel)) ggX4_sheet_X4_found
set_option maxRecDepth 20000 in
theorem ggX4_sheet_X2_renew : GoodIn wsX4_sheet wsX2_renew := goodIn_r _ [24, 25, 26, 27, 35, 36, 37] (by decide +kernel) (by decide +kernel)
set_option maxRecDepth 20000 in
theorem gX4_sheet_X2_renew : GoodIn wsX4_sheet (wsV RX4 194 RX2 yX2_renew wsX2_renew) := goodIn_app (goodIn_of _ (by decide +kernel)) ggX4_sheet_X2_renew
theorem dX4_sheet_0 : decode cX4_sheet 0 = .ok (.iload_n 1, 1) := by decide +kernel
theorem dX4_sheet_1 : decode cX4_sheet 1 = .ok (.invokestatic 187, 3) := by decide +kernel
theorem dX4_sheet_4 : decode cX4_sheet 4 = .ok (.ifCond .eq 10, 3) := by decide +kernel
theorem dX4_sheet_7 : decode cX4_sheet 7 = .ok (.iload_n 2, 1) := by decide +kernel
theorem dX4_sheet_8 : decode cX4_sheet 8 = .ok (.invokestatic 190, 3) := by decide +kernel
theorem dX4_sheet_11 : decode cX4_sheet 11 = .ok (.ifCond .ne 10, 3) := by decide +kernel
theorem dX4_sheet_14 : decode cX4_sheet 14 = .ok (.aload_n 0, 1) := by decide +kernel
theorem dX4_sheet_15 : decode cX4_sheet 15 = .ok (.ldc 55, 2) := by decide +kernel
theorem dX4_sheet_17 : decode cX4_sheet 17 = .ok (.invokevirtual 56, 3) := by decide +kernel
theorem dX4_sheet_20 : decode cX4_sheet 20 = .ok (.ireturn, 1) := by decide +kernel
theorem dX4_sheet_21 : decode cX4_sheet 21 = .ok (.iload_n 3, 1) := by decide +kernel
theorem dX4_sheet_22 : decode cX4_sheet 22 = .ok (.ifCond .ge 10, 3) := by decide +kernel
theorem dX4_sheet_25 : decode cX4_sheet 25 = .ok (.aload_n 0, 1) := by decide +kernel
theorem dX4_sheet_26 : decode cX4_sheet 26 = .ok (.ldc 193, 2) := by decide +kernel
theorem dX4_sheet_28 : decode cX4_sheet 28 = .ok (.invokevirtual 56, 3) := by decide +kernel
theorem dX4_sheet_31 : decode cX4_sheet 31 = .ok (.ireturn, 1) := by decide +kernel
theorem dX4_sheet_32 : decode cX4_sheet 32 = .ok (.iload_n 3, 1) := by decide +kernel
theorem dX4_sheet_33 : decode cX4_sheet 33 = .ok (.bipush 40, 2) := by decide +kernel
theorem dX4_sheet_35 : decode cX4_sheet 35 = .ok (.if_icmp .le 10, 3) := by decide +kernel
theorem dX4_sheet_38 : decode cX4_sheet 38 = .ok (.aload_n 0, 1) := by decide +kernel
theorem dX4_sheet_39 : decode cX4_sheet 39 = .ok (.ldc 55, 2) := by decide +kernel
theorem dX4_sheet_41 : decode cX4_sheet 41 = .ok (.invokevirtual 56, 3) := by decide +kernel
theorem dX4_sheet_44 : decode cX4_sheet 44 = .ok (.ireturn, 1) := by decide +kernel
theorem dX4_sheet_45 : decode cX4_sheet 45 = .ok (.aload_n 0, 1) := by decide +kernel
theorem dX4_sheet_46 : decode cX4_sheet 46 = .ok (.getfield 35, 3) := by decide +kernel
theorem dX4_sheet_49 : decode cX4_sheet 49 = .ok (.iload_n 1, 1) := by decide +kernel
theorem dX4_sheet_50 : decode cX4_sheet 50 = .ok (.aaload, 1) := by decide +kernel
theorem dX4_sheet_51 : decode cX4_sheet 51 = .ok (.iload_n 2, 1) := by decide +kernel
theorem dX4_sheet_52 : decode cX4_sheet 52 = .ok (.iload_n 3, 1) := by decide +kernel
theorem dX4_sheet_53 : decode cX4_sheet 53 = .ok (.invokevirtual 194, 3) := by decide +kernel
theorem dX4_sheet_56 : decode cX4_sheet 56 = .ok (.aload_n 0, 1) := by decide +kernel
theorem dX4_sheet_57 : decode cX4_sheet 57 = .ok (.getfield 35, 3) := by decide +kernel
theorem dX4_sheet_60 : decode cX4_sheet 60 = .ok (.iload_n 1, 1) := by decide +kernel
theorem dX4_sheet_61 : decode cX4_sheet 61 = .ok (.aaload, 1) := by decide +kernel
theorem dX4_sheet_62 : decode cX4_sheet 62 = .ok (.getfield 197, 3) := by decide +kernel
theorem dX4_sheet_65 : decode cX4_sheet 65 = .ok (.ireturn, 1) := by decide +kernel
set_option maxRecDepth 20000 in
theorem ggX4_write_X4_isSheet : GoodIn wsX4_write wsX4_isSheet := goodIn_r _ [9, 10, 11, 8, 12] (by decide +kernel) (by decide +kernel)
set_option maxRecDepth 20000 in
theorem gX4_write_X4_isSheet : GoodIn wsX4_write (va_wsS RX4 187 yX4_isSheet wsX4_isSheet) := goodIn_app (goodIn_of _ (by decide +kernel)) ggX4_write_X4_isSheet
set_option maxRecDepth 20000 in
theorem ggX4_write_X4_found : GoodIn wsX4_write wsX4_found := goodIn_r _ [16, 1, 17, 10, 11, 8, 12, 29, 30, 31, 32, 33, 34, 35] (by decide +kernel) (by decide +kernel)
set_option maxRecDepth 20000 in
theorem gX4_write_X4_found : GoodIn wsX4_write (wsV RX4 56 RX4 yX4_found wsX4_found) := goodIn_app (goodIn_of _ (by decide +kernel)) ggX4_write_X4_found
set_option maxRecDepth 20000 in
theorem ggX4_write_X2_isMissing : GoodIn wsX4_write wsX2_isMissing := goodIn_r _ [22, 23, 36, 37, 38] (by decide +kernel) (by decide +kernel)
set_option maxRecDepth 20000 in
theorem gX4_write_X2_isMissing : GoodIn wsX4_write (wsV RX4 200 RX2 yX2_isMissing wsX2_isMissing) := goodIn_app (goodIn_of _ (by decide +kernel)) ggX4_write_X2_isMissing
set_option maxRecDepth 20000 in
theorem ggX4_write_X4_isFrom : GoodIn wsX4_write wsX4_isFrom := goodIn_r _ [12] (by decide +kernel) (by decide +kernel)
set_option maxRecDepth 20000 in
theorem gX4_write_X4_isFrom : GoodIn wsX4_write (va_wsS RX4 44 yX4_isFrom wsX4_isFrom) := goodIn_app (goodIn_of _ (by decide +kernel)) ggX4_write_X4_isFrom
set_option maxRecDepth 20000 in
theorem ggX4_write_X2_put : GoodIn wsX4_write wsX2_put := goodIn_r _ [27, 23, 28, 36, 37, 38] (by decide +kernel) (by decide +kernel)
set_option maxRecDepth 20000 in
theorem gX4_write_X2_put : GoodIn wsX4_write (wsV RX4 208 RX2 yX2_put wsX2_put) := goodIn_app (goodIn_of _ (by decide +kernel)) ggX4_write_X2_put
theorem dX4_write_0 : decode cX4_write 0 = .ok (.iload_n 1, 1) := by decide +kernel
theorem dX4_write_1 : decode cX4_write 1 = .ok (.invokestatic 187, 3) := by decide +kernel
theorem dX4_write_4 : decode cX4_write 4 = .ok (.ifCond .ne 11, 3) := by decide +kernel
theorem dX4_write_7 : decode cX4_write 7 = .ok (.aload_n 0, 1) := by decide +kernel
theorem dX4_write_8 : decode cX4_write 8 = .ok (.ldc 55, 2) := by decide +kernel
theorem dX4_write_10 : decode cX4_write 10 = .ok (.invokevirtual 56, 3) := by decide +kernel
theorem dX4_write_13 : decode cX4_write 13 = .ok (.i2l, 1) := by decide +kernel
theorem dX4_write_14 : decode cX4_write 14 = .ok (.lreturn, 1) := by decide +kernel
theorem dX4_write_15 : decode cX4_write 15 = .ok (.aload_n 0, 1) := by decide +kernel
theorem dX4_write_16 : decode cX4_write 16 = .ok (.getfield 35, 3) := by decide +kernel
theorem dX4_write_19 : decode cX4_write 19 = .ok (.iload_n 1, 1) := by decide +kernel
theorem dX4_write_20 : decode cX4_write 20 = .ok (.aaload, 1) := by decide +kernel
theorem dX4_write_21 : decode cX4_write 21 = .ok (.astore 5, 2) := by decide +kernel
theorem dX4_write_23 : decode cX4_write 23 = .ok (.aload 5, 2) := by decide +kernel
theorem dX4_write_25 : decode cX4_write 25 = .ok (.invokevirtual 200, 3) := by decide +kernel
theorem dX4_write_28 : decode cX4_write 28 = .ok (.ifCond .eq 11, 3) := by decide +kernel
theorem dX4_write_31 : decode cX4_write 31 = .ok (.aload_n 0, 1) := by decide +kernel
theorem dX4_write_32 : decode cX4_write 32 = .ok (.ldc 203, 2) := by decide +kernel
theorem dX4_write_34 : decode cX4_write 34 = .ok (.invokevirtual 56, 3) := by decide +kernel
theorem dX4_write_37 : decode cX4_write 37 = .ok (.i2l, 1) := by decide +kernel
theorem dX4_write_38 : decode cX4_write 38 = .ok (.lreturn, 1) := by decide +kernel
theorem dX4_write_39 : decode cX4_write 39 = .ok (.iconst 0, 1) := by decide +kernel
theorem dX4_write_40 : decode cX4_write 40 = .ok (.aload 5, 2) := by decide +kernel
theorem dX4_write_42 : decode cX4_write 42 = .ok (.getfield 197, 3) := by decide +kernel
theorem dX4_write_45 : decode cX4_write 45 = .ok (.iconst 1, 1) := by decide +kernel
theorem dX4_write_46 : decode cX4_write 46 = .ok (.isub, 1) := by decide +kernel
theorem dX4_write_47 : decode cX4_write 47 = .ok (.iload_n 2, 1) := by decide +kernel
theorem dX4_write_48 : decode cX4_write 48 = .ok (.invokestatic 44, 3) := by decide +kernel
theorem dX4_write_51 : decode cX4_write 51 = .ok (.ifCond .ne 11, 3) := by decide +kernel
theorem dX4_write_54 : decode cX4_write 54 = .ok (.aload_n 0, 1) := by decide +kernel
theorem dX4_write_55 : decode cX4_write 55 = .ok (.ldc 55, 2) := by decide +kernel
theorem dX4_write_57 : decode cX4_write 57 = .ok (.invokevirtual 56, 3) := by decide +kernel
theorem dX4_write_60 : decode cX4_write 60 = .ok (.i2l, 1) := by decide +kernel
theorem dX4_write_61 : decode cX4_write 61 = .ok (.lreturn, 1) := by decide +kernel
theorem dX4_write_62 : decode cX4_write 62 = .ok (.aload 5, 2) := by decide +kernel
theorem dX4_write_64 : decode cX4_write 64 = .ok (.getfield 204, 3) := by decide +kernel
theorem dX4_write_67 : decode cX4_write 67 = .ok (.iload_n 2, 1) := by decide +kernel
theorem dX4_write_68 : decode cX4_write 68 = .ok (.laload, 1) := by decide +kernel
theorem dX4_write_69 : decode cX4_write 69 = .ok (.lstore 6, 2) := by decide +kernel
theorem dX4_write_71 : decode cX4_write 71 = .ok (.aload 5, 2) := by decide +kernel
theorem dX4_write_73 : decode cX4_write 73 = .ok (.iload_n 2, 1) := by decide +kernel
theorem dX4_write_74 : decode cX4_write 74 = .ok (.lload_n 3, 1) := by decide +kernel
theorem dX4_write_75 : decode cX4_write 75 = .ok (.invokevirtual 208, 3) := by decide +kernel
theorem dX4_write_78 : decode cX4_write 78 = .ok (.lload 6, 2) := by decide +kernel
theorem dX4_write_80 : decode cX4_write 80 = .ok (.lreturn, 1) := by decide +kernel
set_option maxRecDepth 20000 in
theorem ggX4_copy_X4_isSheet : GoodIn wsX4_copy wsX4_isSheet := goodIn_r _ [14, 15, 16, 13, 17] (by decide +kernel) (by decide +kernel)
set_option maxRecDepth 20000 in
theorem gX4_copy_X4_isSheet : GoodIn wsX4_copy (va_wsS RX4 187 yX4_isSheet wsX4_isSheet) := goodIn_app (goodIn_of _ (by decide +kernel)) ggX4_copy_X4_isSheet
set_option maxRecDepth 20000 in
theorem ggX4_copy_X4_found : GoodIn wsX4_copy wsX4_found := goodIn_r _ [21, 1, 22, 15, 16, 13, 17, 34, 35, 36, 37, 38, 39, 40] (by decide +kernel) (by decide +kernel)
set_option maxRecDepth 20000 in
theorem gX4_copy_X4_found : GoodIn wsX4_copy (wsV RX4 56 RX4 yX4_found wsX4_found) := goodIn_app (goodIn_of _ (by decide +kernel)) ggX4_copy_X4_found
set_option maxRecDepth 20000 in
theorem ggX4_copy_X2_isMissing : GoodIn wsX4_copy wsX2_isMissing := goodIn_r _ [27, 28, 41, 42, 43] (by decide +kernel) (by decide +kernel)
set_option maxRecDepth 20000 in
theorem gX4_copy_X2_isMissing : GoodIn wsX4_copy (wsV RX4 200 RX2 yX2_isMissing wsX2_isMissing) := goodIn_app (goodIn_of _ (by decide +kernel)) ggX4_copy_X2_isMissing
set_option maxRecDepth 20000 in
theorem ggX4_copy_X2_hasRun : GoodIn wsX4_copy wsX2_hasRun := goodIn_r _ [32, 33, 41, 42, 43] (by decide +kernel) (by decide +kernel)
set_option maxRecDepth 20000 in
theorem gX4_copy_X2_hasRun : GoodIn wsX4_copy (wsV RX4 215 RX2 yX2_hasRun wsX2_hasRun) := goodIn_app (goodIn_of _ (by decide +kernel)) ggX4_copy_X2_hasRun
theorem dX4_copy_0 : decode cX4_copy 0 = .ok (.iload_n 1, 1) := by decide +kernel
theorem dX4_copy_1 : decode cX4_copy 1 = .ok (.invokestatic 187, 3) := by decide +kernel
theorem dX4_copy_4 : decode cX4_copy 4 = .ok (.ifCond .eq 10, 3) := by decide +kernel
theorem dX4_copy_7 : decode cX4_copy 7 = .ok (.iload_n 3, 1) := by decide +kernel
theorem dX4_copy_8 : decode cX4_copy 8 = .ok (.invokestatic 187, 3) := by decide +kernel
theorem dX4_copy_11 : decode cX4_copy 11 = .ok (.ifCond .ne 10, 3) := by decide +kernel
theorem dX4_copy_14 : decode cX4_copy 14 = .ok (.aload_n 0, 1) := by decide +kernel
theorem dX4_copy_15 : decode cX4_copy 15 = .ok (.ldc 55, 2) := by decide +kernel
theorem dX4_copy_17 : decode cX4_copy 17 = .ok (.invokevirtual 56, 3) := by decide +kernel
theorem dX4_copy_20 : decode cX4_copy 20 = .ok (.ireturn, 1) := by decide +kernel
theorem dX4_copy_21 : decode cX4_copy 21 = .ok (.aload_n 0, 1) := by decide +kernel
theorem dX4_copy_22 : decode cX4_copy 22 = .ok (.getfield 35, 3) := by decide +kernel
theorem dX4_copy_25 : decode cX4_copy 25 = .ok (.iload_n 1, 1) := by decide +kernel
theorem dX4_copy_26 : decode cX4_copy 26 = .ok (.aaload, 1) := by decide +kernel
theorem dX4_copy_27 : decode cX4_copy 27 = .ok (.astore 6, 2) := by decide +kernel
theorem dX4_copy_29 : decode cX4_copy 29 = .ok (.aload_n 0, 1) := by decide +kernel
theorem dX4_copy_30 : decode cX4_copy 30 = .ok (.getfield 35, 3) := by decide +kernel
theorem dX4_copy_33 : decode cX4_copy 33 = .ok (.iload_n 3, 1) := by decide +kernel
theorem dX4_copy_34 : decode cX4_copy 34 = .ok (.aaload, 1) := by decide +kernel
theorem dX4_copy_35 : decode cX4_copy 35 = .ok (.astore 7, 2) := by decide +kernel
theorem dX4_copy_37 : decode cX4_copy 37 = .ok (.aload 6, 2) := by decide +kernel
theorem dX4_copy_39 : decode cX4_copy 39 = .ok (.invokevirtual 200, 3) := by decide +kernel
theorem dX4_copy_42 : decode cX4_copy 42 = .ok (.ifCond .ne 11, 3) := by decide +kernel
theorem dX4_copy_45 : decode cX4_copy 45 = .ok (.aload 7, 2) := by decide +kernel
theorem dX4_copy_47 : decode cX4_copy 47 = .ok (.invokevirtual 200, 3) := by decide +kernel
theorem dX4_copy_50 : decode cX4_copy 50 = .ok (.ifCond .eq 10, 3) := by decide +kernel
theorem dX4_copy_53 : decode cX4_copy 53 = .ok (.aload_n 0, 1) := by decide +kernel
theorem dX4_copy_54 : decode cX4_copy 54 = .ok (.ldc 203, 2) := by decide +kernel
theorem dX4_copy_56 : decode cX4_copy 56 = .ok (.invokevirtual 56, 3) := by decide +kernel
theorem dX4_copy_59 : decode cX4_copy 59 = .ok (.ireturn, 1) := by decide +kernel
theorem dX4_copy_60 : decode cX4_copy 60 = .ok (.aload 6, 2) := by decide +kernel
theorem dX4_copy_62 : decode cX4_copy 62 = .ok (.getfield 212, 3) := by decide +kernel
theorem dX4_copy_65 : decode cX4_copy 65 = .ok (.aload 7, 2) := by decide +kernel
theorem dX4_copy_67 : decode cX4_copy 67 = .ok (.getfield 212, 3) := by decide +kernel
theorem dX4_copy_70 : decode cX4_copy 70 = .ok (.if_icmp .eq 10, 3) := by decide +kernel
theorem dX4_copy_73 : decode cX4_copy 73 = .ok (.aload_n 0, 1) := by decide +kernel
theorem dX4_copy_74 : decode cX4_copy 74 = .ok (.ldc 115, 2) := by decide +kernel
theorem dX4_copy_76 : decode cX4_copy 76 = .ok (.invokevirtual 56, 3) := by decide +kernel
theorem dX4_copy_79 : decode cX4_copy 79 = .ok (.ireturn, 1) := by decide +kernel
theorem dX4_copy_80 : decode cX4_copy 80 = .ok (.aload 6, 2) := by decide +kernel
theorem dX4_copy_82 : decode cX4_copy 82 = .ok (.iload_n 2, 1) := by decide +kernel
theorem dX4_copy_83 : decode cX4_copy 83 = .ok (.iload 5, 2) := by decide +kernel
theorem dX4_copy_85 : decode cX4_copy 85 = .ok (.invokevirtual 215, 3) := by decide +kernel
theorem dX4_copy_88 : decode cX4_copy 88 = .ok (.ifCond .eq 15, 3) := by decide +kernel
theorem dX4_copy_91 : decode cX4_copy 91 = .ok (.aload 7, 2) := by decide +kernel
theorem dX4_copy_93 : decode cX4_copy 93 = .ok (.iload 4, 2) := by decide +kernel
theorem dX4_copy_95 : decode cX4_copy 95 = .ok (.iload 5, 2) := by decide +kernel
theorem dX4_copy_97 : decode cX4_copy 97 = .ok (.invokevirtual 215, 3) := by decide +kernel
theorem dX4_copy_100 : decode cX4_copy 100 = .ok (.ifCond .ne 10, 3) := by decide +kernel
theorem dX4_copy_103 : decode cX4_copy 103 = .ok (.aload_n 0, 1) := by decide +kernel
theorem dX4_copy_104 : decode cX4_copy 104 = .ok (.ldc 55, 2) := by decide +kernel
theorem dX4_copy_106 : decode cX4_copy 106 = .ok (.invokevirtual 56, 3) := by decide +kernel
theorem dX4_copy_109 : decode cX4_copy 109 = .ok (.ireturn, 1) := by decide +kernel
theorem dX4_copy_110 : decode cX4_copy 110 = .ok (.aload 6, 2) := by decide +kernel
theorem dX4_copy_112 : decode cX4_copy 112 = .ok (.getfield 204, 3) := by decide +kernel
theorem dX4_copy_115 : decode cX4_copy 115 = .ok (.iload_n 2, 1) := by decide +kernel
theorem dX4_copy_116 : decode cX4_copy 116 = .ok (.aload 7, 2) := by decide +kernel
theorem dX4_copy_118 : decode cX4_copy 118 = .ok (.getfield 204, 3) := by decide +kernel
theorem dX4_copy_121 : decode cX4_copy 121 = .ok (.iload 4, 2) := by decide +kernel
theorem dX4_copy_123 : decode cX4_copy 123 = .ok (.iload 5, 2) := by decide +kernel
theorem dX4_copy_125 : decode cX4_copy 125 = .ok (.invokestatic 218, 3) := by decide +kernel
theorem dX4_copy_128 : decode cX4_copy 128 = .ok (.iload 5, 2) := by decide +kernel
theorem dX4_copy_130 : decode cX4_copy 130 = .ok (.ireturn, 1) := by decide +kernel
set_option maxRecDepth 20000 in
theorem ggX4_lays_X4_isSheet : GoodIn wsX4_lays wsX4_isSheet := goodIn_r _ [17, 18, 19, 16, 20] (by decide +kernel) (by decide +kernel)
set_option maxRecDepth 20000 in
theorem gX4_lays_X4_isSheet : GoodIn wsX4_lays (va_wsS RX4 187 yX4_isSheet wsX4_isSheet) := goodIn_app (goodIn_of _ (by decide +kernel)) ggX4_lays_X4_isSheet
set_option maxRecDepth 20000 in
theorem ggX4_lays_X4_found : GoodIn wsX4_lays wsX4_found := goodIn_r _ [24, 1, 25, 18, 19, 16, 20, 32, 33, 34, 35, 36, 37, 38] (by decide +kernel) (by decide +kernel)
set_option maxRecDepth 20000 in
theorem gX4_lays_X4_found : GoodIn wsX4_lays (wsV RX4 56 RX4 yX4_found wsX4_found) := goodIn_app (goodIn_of _ (by decide +kernel)) ggX4_lays_X4_found
set_option maxRecDepth 20000 in
theorem ggX4_lays_X2_isMissing : GoodIn wsX4_lays wsX2_isMissing := goodIn_r _ [30, 31, 39, 40, 41] (by decide +kernel) (by decide +kernel)
set_option maxRecDepth 20000 in
theorem gX4_lays_X2_isMissing : GoodIn wsX4_lays (wsV RX4 200 RX2 yX2_isMissing wsX2_isMissing) := goodIn_app (goodIn_of _ (by decide +kernel)) ggX4_lays_X2_isMissing
theorem dX4_lays_0 : decode cX4_lays 0 = .ok (.iload_n 1, 1) := by decide +kernel
theorem dX4_lays_1 : decode cX4_lays 1 = .ok (.invokestatic 187, 3) := by decide +kernel
theorem dX4_lays_4 : decode cX4_lays 4 = .ok (.ifCond .ne 10, 3) := by decide +kernel
theorem dX4_lays_7 : decode cX4_lays 7 = .ok (.aload_n 0, 1) := by decide +kernel
theorem dX4_lays_8 : decode cX4_lays 8 = .ok (.ldc 55, 2) := by decide +kernel
theorem dX4_lays_10 : decode cX4_lays 10 = .ok (.invokevirtual 56, 3) := by decide +kernel
theorem dX4_lays_13 : decode cX4_lays 13 = .ok (.ireturn, 1) := by decide +kernel
theorem dX4_lays_14 : decode cX4_lays 14 = .ok (.aload_n 0, 1) := by decide +kernel
theorem dX4_lays_15 : decode cX4_lays 15 = .ok (.getfield 35, 3) := by decide +kernel
theorem dX4_lays_18 : decode cX4_lays 18 = .ok (.iload_n 1, 1) := by decide +kernel
theorem dX4_lays_19 : decode cX4_lays 19 = .ok (.aaload, 1) := by decide +kernel
theorem dX4_lays_20 : decode cX4_lays 20 = .ok (.astore_n 2, 1) := by decide +kernel
theorem dX4_lays_21 : decode cX4_lays 21 = .ok (.aload_n 2, 1) := by decide +kernel
theorem dX4_lays_22 : decode cX4_lays 22 = .ok (.invokevirtual 200, 3) := by decide +kernel
theorem dX4_lays_25 : decode cX4_lays 25 = .ok (.ifCond .eq 10, 3) := by decide +kernel
theorem dX4_lays_28 : decode cX4_lays 28 = .ok (.aload_n 0, 1) := by decide +kernel
theorem dX4_lays_29 : decode cX4_lays 29 = .ok (.ldc 203, 2) := by decide +kernel
theorem dX4_lays_31 : decode cX4_lays 31 = .ok (.invokevirtual 56, 3) := by decide +kernel
theorem dX4_lays_34 : decode cX4_lays 34 = .ok (.ireturn, 1) := by decide +kernel
theorem dX4_lays_35 : decode cX4_lays 35 = .ok (.iconst 0, 1) := by decide +kernel
theorem dX4_lays_36 : decode cX4_lays 36 = .ok (.istore_n 3, 1) := by decide +kernel
theorem dX4_lays_37 : decode cX4_lays 37 = .ok (.aload_n 2, 1) := by decide +kernel
theorem dX4_lays_38 : decode cX4_lays 38 = .ok (.getfield 197, 3) := by decide +kernel
theorem dX4_lays_41 : decode cX4_lays 41 = .ok (.aload_n 0, 1) := by decide +kernel
theorem dX4_lays_42 : decode cX4_lays 42 = .ok (.getfield 10, 3) := by decide +kernel
theorem dX4_lays_45 : decode cX4_lays 45 = .ok (.getfield 157, 3) := by decide +kernel
theorem dX4_lays_48 : decode cX4_lays 48 = .ok (.invokestatic 224, 3) := by decide +kernel
theorem dX4_lays_51 : decode cX4_lays 51 = .ok (.istore 4, 2) := by decide +kernel
theorem dX4_lays_53 : decode cX4_lays 53 = .ok (.iconst 0, 1) := by decide +kernel
theorem dX4_lays_54 : decode cX4_lays 54 = .ok (.istore 5, 2) := by decide +kernel
theorem dX4_lays_56 : decode cX4_lays 56 = .ok (.iload 5, 2) := by decide +kernel
theorem dX4_lays_58 : decode cX4_lays 58 = .ok (.iload 4, 2) := by decide +kernel
theorem dX4_lays_60 : decode cX4_lays 60 = .ok (.if_icmp .ge 50, 3) := by decide +kernel
theorem dX4_lays_63 : decode cX4_lays 63 = .ok (.aload_n 2, 1) := by decide +kernel
theorem dX4_lays_64 : decode cX4_lays 64 = .ok (.getfield 204, 3) := by decide +kernel
theorem dX4_lays_67 : decode cX4_lays 67 = .ok (.iload 5, 2) := by decide +kernel
theorem dX4_lays_69 : decode cX4_lays 69 = .ok (.laload, 1) := by decide +kernel
theorem dX4_lays_70 : decode cX4_lays 70 = .ok (.lstore 6, 2) := by decide +kernel
theorem dX4_lays_72 : decode cX4_lays 72 = .ok (.lload 6, 2) := by decide +kernel
theorem dX4_lays_74 : decode cX4_lays 74 = .ok (.lconst 0, 1) := by decide +kernel
theorem dX4_lays_75 : decode cX4_lays 75 = .ok (.lcmp, 1) := by decide +kernel
theorem dX4_lays_76 : decode cX4_lays 76 = .ok (.ifCond .lt 28, 3) := by decide +kernel
theorem dX4_lays_79 : decode cX4_lays 79 = .ok (.lload 6, 2) := by decide +kernel
theorem dX4_lays_81 : decode cX4_lays 81 = .ok (.ldc2_w 229, 3) := by decide +kernel
theorem dX4_lays_84 : decode cX4_lays 84 = .ok (.lcmp, 1) := by decide +kernel
theorem dX4_lays_85 : decode cX4_lays 85 = .ok (.ifCond .gt 19, 3) := by decide +kernel
theorem dX4_lays_88 : decode cX4_lays 88 = .ok (.aload_n 0, 1) := by decide +kernel
theorem dX4_lays_89 : decode cX4_lays 89 = .ok (.getfield 10, 3) := by decide +kernel
theorem dX4_lays_92 : decode cX4_lays 92 = .ok (.getfield 116, 3) := by decide +kernel
theorem dX4_lays_95 : decode cX4_lays 95 = .ok (.iload 5, 2) := by decide +kernel
theorem dX4_lays_97 : decode cX4_lays 97 = .ok (.lload 6, 2) := by decide +kernel
theorem dX4_lays_99 : decode cX4_lays 99 = .ok (.l2i, 1) := by decide +kernel
theorem dX4_lays_100 : decode cX4_lays 100 = .ok (.iastore, 1) := by decide +kernel
theorem dX4_lays_101 : decode cX4_lays 101 = .ok (.iinc 3 1, 3) := by decide +kernel
theorem dX4_lays_104 : decode cX4_lays 104 = .ok (.iinc 5 1, 3) := by decide +kernel
theorem dX4_lays_107 : decode cX4_lays 107 = .ok (.goto (-51), 3) := by decide +kernel
theorem dX4_lays_110 : decode cX4_lays 110 = .ok (.iload_n 3, 1) := by decide +kernel
theorem dX4_lays_111 : decode cX4_lays 111 = .ok (.ireturn, 1) := by decide +kernel
set_option maxRecDepth 20000 in
theorem ggX4_book_X4_faultOfBook : GoodIn wsX4_book wsX4_faultOfBook := goodIn_r _ [8, 9, 1, 10, 11, 12, 7, 13, 14, 15, 16, 17, 18, 19, 20, 21, 22, 23, 24, 25, 26, 27, 28, 121, 122, 123, 124, 125, 126, 127, 128, 129, 130, 131, 132, 133, 134, 135, 136, 137, 138, 139, 140, 141] (by decide +kernel) (by decide +kernel)
set_option maxRecDepth 20000 in
theorem gX4_book_X4_faultOfBook : GoodIn wsX4_book (wsV RX4 231 RX4 yX4_faultOfBook wsX4_faultOfBook) := goodIn_app (goodIn_of _ (by decide +kernel)) ggX4_book_X4_faultOfBook
set_option maxRecDepth 20000 in
theorem ggX4_book_X4_found : GoodIn wsX4_book wsX4_found := goodIn_r _ [32, 9, 33, 14, 15, 7, 16, 121, 122, 123, 124, 125, 126, 127] (by decide +kernel) (by decide +kernel)
set_option maxRecDepth 20000 in
theorem gX4_book_X4_found : GoodIn wsX4_book (wsV RX4 56 RX4 yX4_found wsX4_found) := goodIn_app (goodIn_of _ (by decide +kernel)) ggX4_book_X4_found
set_option maxRecDepth 20000 in
theorem ggX4_book_X4_freshTrial : GoodIn wsX4_book wsX4_freshTrial := goodIn_r _ [37, 38, 27, 39, 40, 41, 42, 43, 44, 45, 46, 47, 48, 49, 50, 51, 52, 53, 54, 55, 56, 57, 58, 121, 122, 123, 124, 125, 126, 127, 131, 132, 133, 134, 135, 136, 137, 138, 139, 140, 141] (by decide +kernel) (by decide +kernel)
set_option maxRecDepth 20000 in
theorem gX4_book_X4_freshTrial : GoodIn wsX4_book (wsV RX4 134 RX4 yX4_freshTrial wsX4_freshTrial) := goodIn_app (goodIn_of _ (by decide +kernel)) ggX4_book_X4_freshTrial
set_option maxRecDepth 20000 in
theorem ggX4_book_X2_put : GoodIn wsX4_book wsX2_put := goodIn_r _ [62, 22, 63, 128, 129, 130] (by decide +kernel) (by decide +kernel)
set_option maxRecDepth 20000 in
theorem gX4_book_X2_put : GoodIn wsX4_book (wsV RX4 208 RX2 yX2_put wsX2_put) := goodIn_app (goodIn_of _ (by decide +kernel)) ggX4_book_X2_put
set_option maxRecDepth 20000 in
theorem ggX4_book_X1_goOneSecond : GoodIn wsX4_book wsX1_goOneSecond := goodIn_r _ [67, 48, 57, 56, 46, 68, 69, 70, 42, 71, 72, 73, 74, 75, 76, 77, 78, 79, 49, 55, 80, 81, 82, 83, 84, 85, 86, 87, 88, 89, 90, 91, 54, 58, 92, 93, 94, 95, 96, 97, 98, 47, 99, 100, 101, 102, 103, 104, 105, 106, 107, 108, 109, 110, 111, 112, 113, 114, 115, 116, 117, 45, 118, 119, 120, 131, 132, 133, 134, 135, 136, 137, 138, 139, 140, 141] (by decide +kernel) (by decide +kernel)
set_option maxRecDepth 20000 in
theorem gX4_book_X1_goOneSecond : GoodIn wsX4_book (wsV RX4 234 RX1 yX1_goOneSecond wsX1_goOneSecond) := goodIn_app (goodIn_of _ (by decide +kernel)) ggX4_book_X1_goOneSecond
theorem dX4_book_0 : decode cX4_book 0 = .ok (.aload_n 0, 1) := by decide +kernel
theorem dX4_book_1 : decode cX4_book 1 = .ok (.iload_n 1, 1) := by decide +kernel
theorem dX4_book_2 : decode cX4_book 2 = .ok (.iload_n 2, 1) := by decide +kernel
theorem dX4_book_3 : decode cX4_book 3 = .ok (.invokevirtual 231, 3) := by decide +kernel
theorem dX4_book_6 : decode cX4_book 6 = .ok (.istore_n 3, 1) := by decide +kernel
theorem dX4_book_7 : decode cX4_book 7 = .ok (.iload_n 3, 1) := by decide +kernel
theorem dX4_book_8 : decode cX4_book 8 = .ok (.ifCond .eq 9, 3) := by decide +kernel
theorem dX4_book_11 : decode cX4_book 11 = .ok (.aload_n 0, 1) := by decide +kernel
theorem dX4_book_12 : decode cX4_book 12 = .ok (.iload_n 3, 1) := by decide +kernel
theorem dX4_book_13 : decode cX4_book 13 = .ok (.invokevirtual 56, 3) := by decide +kernel
theorem dX4_book_16 : decode cX4_book 16 = .ok (.ireturn, 1) := by decide +kernel
theorem dX4_book_17 : decode cX4_book 17 = .ok (.aload_n 0, 1) := by decide +kernel
theorem dX4_book_18 : decode cX4_book 18 = .ok (.getfield 35, 3) := by decide +kernel
theorem dX4_book_21 : decode cX4_book 21 = .ok (.iload_n 1, 1) := by decide +kernel
theorem dX4_book_22 : decode cX4_book 22 = .ok (.aaload, 1) := by decide +kernel
theorem dX4_book_23 : decode cX4_book 23 = .ok (.astore 4, 2) := by decide +kernel
theorem dX4_book_25 : decode cX4_book 25 = .ok (.aload_n 0, 1) := by decide +kernel
theorem dX4_book_26 : decode cX4_book 26 = .ok (.invokevirtual 134, 3) := by decide +kernel
theorem dX4_book_29 : decode cX4_book 29 = .ok (.astore 5, 2) := by decide +kernel
theorem dX4_book_31 : decode cX4_book 31 = .ok (.iconst 0, 1) := by decide +kernel
theorem dX4_book_32 : decode cX4_book 32 = .ok (.istore 6, 2) := by decide +kernel
theorem dX4_book_34 : decode cX4_book 34 = .ok (.iload 6, 2) := by decide +kernel
theorem dX4_book_36 : decode cX4_book 36 = .ok (.aload 4, 2) := by decide +kernel
theorem dX4_book_38 : decode cX4_book 38 = .ok (.getfield 197, 3) := by decide +kernel
theorem dX4_book_41 : decode cX4_book 41 = .ok (.if_icmp .ge 29, 3) := by decide +kernel
theorem dX4_book_44 : decode cX4_book 44 = .ok (.aload 4, 2) := by decide +kernel
theorem dX4_book_46 : decode cX4_book 46 = .ok (.iload 6, 2) := by decide +kernel
theorem dX4_book_48 : decode cX4_book 48 = .ok (.aload 5, 2) := by decide +kernel
theorem dX4_book_50 : decode cX4_book 50 = .ok (.getfield 116, 3) := by decide +kernel
theorem dX4_book_53 : decode cX4_book 53 = .ok (.iload_n 2, 1) := by decide +kernel
theorem dX4_book_54 : decode cX4_book 54 = .ok (.iaload, 1) := by decide +kernel
theorem dX4_book_55 : decode cX4_book 55 = .ok (.i2l, 1) := by decide +kernel
theorem dX4_book_56 : decode cX4_book 56 = .ok (.invokevirtual 208, 3) := by decide +kernel
theorem dX4_book_59 : decode cX4_book 59 = .ok (.aload 5, 2) := by decide +kernel
theorem dX4_book_61 : decode cX4_book 61 = .ok (.invokevirtual 234, 3) := by decide +kernel
theorem dX4_book_64 : decode cX4_book 64 = .ok (.iinc 6 1, 3) := by decide +kernel
theorem dX4_book_67 : decode cX4_book 67 = .ok (.goto (-33), 3) := by decide +kernel
theorem dX4_book_70 : decode cX4_book 70 = .ok (.aload 4, 2) := by decide +kernel
theorem dX4_book_72 : decode cX4_book 72 = .ok (.getfield 197, 3) := by decide +kernel
theorem dX4_book_75 : decode cX4_book 75 = .ok (.ireturn, 1) := by decide +kernel
set_option maxRecDepth 20000 in
theorem ggX4_read_X4_faultOfBook : GoodIn wsX4_read wsX4_faultOfBook := goodIn_r _ [8, 9, 3, 10, 11, 12, 7, 13, 14, 15, 16, 17, 18, 19, 20, 21, 22, 23, 24, 25, 26, 27, 28, 133, 134, 135, 136, 137, 138, 139, 140, 141, 142, 122, 123, 124, 125, 126, 127, 128, 129, 130, 131, 132] (by decide +kernel) (by decide +kernel)
set_option maxRecDepth 20000 in
theorem gX4_read_X4_faultOfBook : GoodIn wsX4_read (wsV RX4 231 RX4 yX4_faultOfBook wsX4_faultOfBook) := goodIn_app (goodIn_of _ (by decide +kernel)) ggX4_read_X4_faultOfBook
set_option maxRecDepth 20000 in
theorem ggX4_read_X4_found : GoodIn wsX4_read wsX4_found := goodIn_r _ [32, 9, 33, 14, 15, 7, 16, 133, 134, 135, 136, 137, 138, 139] (by decide +kernel) (by decide +kernel)
set_option maxRecDepth 20000 in
theorem gX4_read_X4_found : GoodIn wsX4_read (wsV RX4 56 RX4 yX4_found wsX4_found) := goodIn_app (goodIn_of _ (by decide +kernel)) ggX4_read_X4_found
set_option maxRecDepth 20000 in
theorem ggX4_read_X4_freshTrial : GoodIn wsX4_read wsX4_freshTrial := goodIn_r _ [37, 38, 27, 39, 40, 41, 42, 43, 44, 45, 46, 47, 48, 49, 50, 51, 52, 53, 54, 55, 56, 57, 58, 133, 134, 135, 136, 137, 138, 139, 122, 123, 124, 125, 126, 127, 128, 129, 130, 131, 132] (by decide +kernel) (by decide +kernel)
set_option maxRecDepth 20000 in
theorem gX4_read_X4_freshTrial : GoodIn wsX4_read (wsV RX4 134 RX4 yX4_freshTrial wsX4_freshTrial) := goodIn_app (goodIn_of _ (by decide +kernel)) ggX4_read_X4_freshTrial
set_option maxRecDepth 20000 in
theorem ggX4_read_X1_walksAs : GoodIn wsX4_read wsX1_walksAs := goodIn_r _ [62, 63, 64, 56, 65, 66, 67, 42, 68, 48, 57, 46, 69, 70, 71, 72, 73, 74, 75, 76, 77, 78, 79, 80, 49, 55, 81, 82, 83, 84, 85, 86, 87, 88, 89, 90, 91, 92, 54, 58, 93, 94, 95, 96, 97, 98, 99, 47, 100, 101, 102, 103, 104, 105, 106, 107, 108, 109, 110, 111, 112, 113, 114, 115, 116, 117, 118, 45, 119, 120, 121, 140, 141, 142, 122, 123, 124, 125, 126, 127, 128, 129, 130, 131, 132] (by decide +kernel) (by decide +kernel)
set_option maxRecDepth 20000 in
theorem gX4_read_X1_walksAs : GoodIn wsX4_read (wsV RX4 237 RX1 yX1_walksAs wsX1_walksAs) := goodIn_app (goodIn_of _ (by decide +kernel)) ggX4_read_X1_walksAs
theorem dX4_read_0 : decode cX4_read 0 = .ok (.aload_n 0, 1) := by decide +kernel
theorem dX4_read_1 : decode cX4_read 1 = .ok (.iload_n 1, 1) := by decide +kernel
theorem dX4_read_2 : decode cX4_read 2 = .ok (.iload_n 2, 1) := by decide +kernel
theorem dX4_read_3 : decode cX4_read 3 = .ok (.invokevirtual 231, 3) := by decide +kernel
theorem dX4_read_6 : decode cX4_read 6 = .ok (.istore_n 3, 1) := by decide +kernel
theorem dX4_read_7 : decode cX4_read 7 = .ok (.iload_n 3, 1) := by decide +kernel
theorem dX4_read_8 : decode cX4_read 8 = .ok (.ifCond .eq 9, 3) := by decide +kernel
theorem dX4_read_11 : decode cX4_read 11 = .ok (.aload_n 0, 1) := by decide +kernel
theorem dX4_read_12 : decode cX4_read 12 = .ok (.iload_n 3, 1) := by decide +kernel
theorem dX4_read_13 : decode cX4_read 13 = .ok (.invokevirtual 56, 3) := by decide +kernel
theorem dX4_read_16 : decode cX4_read 16 = .ok (.ireturn, 1) := by decide +kernel
theorem dX4_read_17 : decode cX4_read 17 = .ok (.iconst 0, 1) := by decide +kernel
theorem dX4_read_18 : decode cX4_read 18 = .ok (.istore 4, 2) := by decide +kernel
theorem dX4_read_20 : decode cX4_read 20 = .ok (.iconst 0, 1) := by decide +kernel
theorem dX4_read_21 : decode cX4_read 21 = .ok (.istore 5, 2) := by decide +kernel
theorem dX4_read_23 : decode cX4_read 23 = .ok (.iload 5, 2) := by decide +kernel
theorem dX4_read_25 : decode cX4_read 25 = .ok (.bipush 6, 2) := by decide +kernel
theorem dX4_read_27 : decode cX4_read 27 = .ok (.if_icmp .ge 67, 3) := by decide +kernel
theorem dX4_read_30 : decode cX4_read 30 = .ok (.iconst 0, 1) := by decide +kernel
theorem dX4_read_31 : decode cX4_read 31 = .ok (.istore 6, 2) := by decide +kernel
theorem dX4_read_33 : decode cX4_read 33 = .ok (.iload 6, 2) := by decide +kernel
theorem dX4_read_35 : decode cX4_read 35 = .ok (.bipush 9, 2) := by decide +kernel
theorem dX4_read_37 : decode cX4_read 37 = .ok (.if_icmp .gt 51, 3) := by decide +kernel
theorem dX4_read_40 : decode cX4_read 40 = .ok (.aload_n 0, 1) := by decide +kernel
theorem dX4_read_41 : decode cX4_read 41 = .ok (.invokevirtual 134, 3) := by decide +kernel
theorem dX4_read_44 : decode cX4_read 44 = .ok (.astore 7, 2) := by decide +kernel
theorem dX4_read_46 : decode cX4_read 46 = .ok (.aload 7, 2) := by decide +kernel
theorem dX4_read_48 : decode cX4_read 48 = .ok (.getfield 108, 3) := by decide +kernel
theorem dX4_read_51 : decode cX4_read 51 = .ok (.iload_n 2, 1) := by decide +kernel
theorem dX4_read_52 : decode cX4_read 52 = .ok (.iload 5, 2) := by decide +kernel
theorem dX4_read_54 : decode cX4_read 54 = .ok (.iastore, 1) := by decide +kernel
theorem dX4_read_55 : decode cX4_read 55 = .ok (.aload 7, 2) := by decide +kernel
theorem dX4_read_57 : decode cX4_read 57 = .ok (.getfield 170, 3) := by decide +kernel
theorem dX4_read_60 : decode cX4_read 60 = .ok (.iload_n 2, 1) := by decide +kernel
theorem dX4_read_61 : decode cX4_read 61 = .ok (.iload 6, 2) := by decide +kernel
theorem dX4_read_63 : decode cX4_read 63 = .ok (.iastore, 1) := by decide +kernel
theorem dX4_read_64 : decode cX4_read 64 = .ok (.aload 7, 2) := by decide +kernel
theorem dX4_read_66 : decode cX4_read 66 = .ok (.aload_n 0, 1) := by decide +kernel
theorem dX4_read_67 : decode cX4_read 67 = .ok (.getfield 35, 3) := by decide +kernel
theorem dX4_read_70 : decode cX4_read 70 = .ok (.iload_n 1, 1) := by decide +kernel
theorem dX4_read_71 : decode cX4_read 71 = .ok (.aaload, 1) := by decide +kernel
theorem dX4_read_72 : decode cX4_read 72 = .ok (.iload_n 2, 1) := by decide +kernel
theorem dX4_read_73 : decode cX4_read 73 = .ok (.invokevirtual 237, 3) := by decide +kernel
theorem dX4_read_76 : decode cX4_read 76 = .ok (.ifCond .eq 6, 3) := by decide +kernel
theorem dX4_read_79 : decode cX4_read 79 = .ok (.iinc 4 1, 3) := by decide +kernel
theorem dX4_read_82 : decode cX4_read 82 = .ok (.iinc 6 1, 3) := by decide +kernel
theorem dX4_read_85 : decode cX4_read 85 = .ok (.goto (-52), 3) := by decide +kernel
theorem dX4_read_88 : decode cX4_read 88 = .ok (.iinc 5 1, 3) := by decide +kernel
theorem dX4_read_91 : decode cX4_read 91 = .ok (.goto (-68), 3) := by decide +kernel
theorem dX4_read_94 : decode cX4_read 94 = .ok (.iload 4, 2) := by decide +kernel
theorem dX4_read_96 : decode cX4_read 96 = .ok (.ireturn, 1) := by decide +kernel
set_option maxRecDepth 20000 in
theorem ggX4_image_X1_become : GoodIn wsX4_image wsX1_become := goodIn_r _ [8, 9, 10, 11, 12, 13, 14, 15, 16, 17, 18, 19, 20, 21, 22, 23, 31, 32, 33, 34, 35, 36, 37, 38, 39, 40, 41] (by decide +kernel) (by decide +kernel)
set_option maxRecDepth 20000 in
theorem gX4_image_X1_become : GoodIn wsX4_image (wsV RX4 183 RX1 yX1_become wsX1_become) := goodIn_app (goodIn_of _ (by decide +kernel)) ggX4_image_X1_become
theorem dX4_image_0 : decode cX4_image 0 = .ok (.aload_n 0, 1) := by decide +kernel
theorem dX4_image_1 : decode cX4_image 1 = .ok (.getfield 19, 3) := by decide +kernel
theorem dX4_image_4 : decode cX4_image 4 = .ok (.aload_n 0, 1) := by decide +kernel
theorem dX4_image_5 : decode cX4_image 5 = .ok (.getfield 10, 3) := by decide +kernel
theorem dX4_image_8 : decode cX4_image 8 = .ok (.invokevirtual 183, 3) := by decide +kernel
theorem dX4_image_11 : decode cX4_image 11 = .ok (.aload_n 0, 1) := by decide +kernel
theorem dX4_image_12 : decode cX4_image 12 = .ok (.iconst 1, 1) := by decide +kernel
theorem dX4_image_13 : decode cX4_image 13 = .ok (.putfield 22, 3) := by decide +kernel
theorem dX4_image_16 : decode cX4_image 16 = .ok (.iconst 1, 1) := by decide +kernel
theorem dX4_image_17 : decode cX4_image 17 = .ok (.ireturn, 1) := by decide +kernel
set_option maxRecDepth 20000 in
theorem ggX4_undo_X4_found : GoodIn wsX4_undo wsX4_found := goodIn_r _ [10, 11, 12, 13, 14, 9, 15, 36, 37, 38, 39, 40, 41, 42] (by decide +kernel) (by decide +kernel)
set_option maxRecDepth 20000 in
theorem gX4_undo_X4_found : GoodIn wsX4_undo (wsV RX4 56 RX4 yX4_found wsX4_found) := goodIn_app (goodIn_of _ (by decide +kernel)) ggX4_undo_X4_found
set_option maxRecDepth 20000 in
theorem ggX4_undo_X1_become : GoodIn wsX4_undo wsX1_become := goodIn_r _ [20, 21, 22, 23, 24, 25, 26, 27, 28, 29, 30, 31, 32, 33, 34, 35, 43, 44, 45, 46, 47, 48, 49, 50, 51, 52, 53] (by decide +kernel) (by decide +kernel)
set_option maxRecDepth 20000 in
theorem gX4_undo_X1_become : GoodIn wsX4_undo (wsV RX4 183 RX1 yX1_become wsX1_become) := goodIn_app (goodIn_of _ (by decide +kernel)) ggX4_undo_X1_become
theorem dX4_undo_0 : decode cX4_undo 0 = .ok (.aload_n 0, 1) := by decide +kernel
theorem dX4_undo_1 : decode cX4_undo 1 = .ok (.getfield 22, 3) := by decide +kernel
theorem dX4_undo_4 : decode cX4_undo 4 = .ok (.ifCond .ne 10, 3) := by decide +kernel
theorem dX4_undo_7 : decode cX4_undo 7 = .ok (.aload_n 0, 1) := by decide +kernel
theorem dX4_undo_8 : decode cX4_undo 8 = .ok (.ldc 156, 2) := by decide +kernel
theorem dX4_undo_10 : decode cX4_undo 10 = .ok (.invokevirtual 56, 3) := by decide +kernel
theorem dX4_undo_13 : decode cX4_undo 13 = .ok (.ireturn, 1) := by decide +kernel
theorem dX4_undo_14 : decode cX4_undo 14 = .ok (.aload_n 0, 1) := by decide +kernel
theorem dX4_undo_15 : decode cX4_undo 15 = .ok (.getfield 10, 3) := by decide +kernel
theorem dX4_undo_18 : decode cX4_undo 18 = .ok (.aload_n 0, 1) := by decide +kernel
theorem dX4_undo_19 : decode cX4_undo 19 = .ok (.getfield 19, 3) := by decide +kernel
theorem dX4_undo_22 : decode cX4_undo 22 = .ok (.invokevirtual 183, 3) := by decide +kernel
theorem dX4_undo_25 : decode cX4_undo 25 = .ok (.aload_n 0, 1) := by decide +kernel
theorem dX4_undo_26 : decode cX4_undo 26 = .ok (.getfield 10, 3) := by decide +kernel
theorem dX4_undo_29 : decode cX4_undo 29 = .ok (.getfield 157, 3) := by decide +kernel
theorem dX4_undo_32 : decode cX4_undo 32 = .ok (.ireturn, 1) := by decide +kernel
theorem dX4_tear_0 : decode cX4_tear 0 = .ok (.aload_n 0, 1) := by decide +kernel
theorem dX4_tear_1 : decode cX4_tear 1 = .ok (.getfield 22, 3) := by decide +kernel
theorem dX4_tear_4 : decode cX4_tear 4 = .ok (.ifCond .eq 7, 3) := by decide +kernel
theorem dX4_tear_7 : decode cX4_tear 7 = .ok (.iconst 1, 1) := by decide +kernel
theorem dX4_tear_8 : decode cX4_tear 8 = .ok (.goto 4, 3) := by decide +kernel
theorem dX4_tear_11 : decode cX4_tear 11 = .ok (.iconst 0, 1) := by decide +kernel
theorem dX4_tear_12 : decode cX4_tear 12 = .ok (.istore_n 1, 1) := by decide +kernel
theorem dX4_tear_13 : decode cX4_tear 13 = .ok (.aload_n 0, 1) := by decide +kernel
theorem dX4_tear_14 : decode cX4_tear 14 = .ok (.iconst 0, 1) := by decide +kernel
theorem dX4_tear_15 : decode cX4_tear 15 = .ok (.putfield 22, 3) := by decide +kernel
theorem dX4_tear_18 : decode cX4_tear 18 = .ok (.iload_n 1, 1) := by decide +kernel
theorem dX4_tear_19 : decode cX4_tear 19 = .ok (.ireturn, 1) := by decide +kernel
set_option maxRecDepth 20000 in
theorem ggX4_count_X1_sumOf : GoodIn wsX4_count wsX1_sumOf := goodIn_r _ [12, 13, 30, 31, 32, 33, 34, 35, 36, 37, 38, 39, 40] (by decide +kernel) (by decide +kernel)
set_option maxRecDepth 20000 in
theorem gX4_count_X1_sumOf : GoodIn wsX4_count (wsV RX4 76 RX1 yX1_sumOf wsX1_sumOf) := goodIn_app (goodIn_of _ (by decide +kernel)) ggX4_count_X1_sumOf
set_option maxRecDepth 20000 in
theorem ggX4_count_X4_found : GoodIn wsX4_count wsX4_found := goodIn_r _ [18, 7, 19, 20, 21, 17, 22, 23, 24, 25, 26, 27, 28, 29] (by decide +kernel) (by decide +kernel)
set_option maxRecDepth 20000 in
theorem gX4_count_X4_found : GoodIn wsX4_count (wsV RX4 56 RX4 yX4_found wsX4_found) := goodIn_app (goodIn_of _ (by decide +kernel)) ggX4_count_X4_found
theorem dX4_count_0 : decode cX4_count 0 = .ok (.iload_n 1, 1) := by decide +kernel
theorem dX4_count_1 : decode cX4_count 1 = .ok (.tableswitch 85 0 3 #[31, 39, 47, 70], 31) := by decide +kernel
theorem dX4_count_32 : decode cX4_count 32 = .ok (.aload_n 0, 1) := by decide +kernel
theorem dX4_count_33 : decode cX4_count 33 = .ok (.getfield 10, 3) := by decide +kernel
theorem dX4_count_36 : decode cX4_count 36 = .ok (.getfield 157, 3) := by decide +kernel
theorem dX4_count_39 : decode cX4_count 39 = .ok (.ireturn, 1) := by decide +kernel
theorem dX4_count_40 : decode cX4_count 40 = .ok (.aload_n 0, 1) := by decide +kernel
theorem dX4_count_41 : decode cX4_count 41 = .ok (.getfield 29, 3) := by decide +kernel
theorem dX4_count_44 : decode cX4_count 44 = .ok (.getfield 173, 3) := by decide +kernel
theorem dX4_count_47 : decode cX4_count 47 = .ok (.ireturn, 1) := by decide +kernel
theorem dX4_count_48 : decode cX4_count 48 = .ok (.aload_n 0, 1) := by decide +kernel
theorem dX4_count_49 : decode cX4_count 49 = .ok (.getfield 10, 3) := by decide +kernel
theorem dX4_count_52 : decode cX4_count 52 = .ok (.getfield 157, 3) := by decide +kernel
theorem dX4_count_55 : decode cX4_count 55 = .ok (.aload_n 0, 1) := by decide +kernel
theorem dX4_count_56 : decode cX4_count 56 = .ok (.getfield 10, 3) := by decide +kernel
theorem dX4_count_59 : decode cX4_count 59 = .ok (.aload_n 0, 1) := by decide +kernel
theorem dX4_count_60 : decode cX4_count 60 = .ok (.getfield 10, 3) := by decide +kernel
theorem dX4_count_63 : decode cX4_count 63 = .ok (.getfield 164, 3) := by decide +kernel
theorem dX4_count_66 : decode cX4_count 66 = .ok (.invokevirtual 76, 3) := by decide +kernel
theorem dX4_count_69 : decode cX4_count 69 = .ok (.isub, 1) := by decide +kernel
theorem dX4_count_70 : decode cX4_count 70 = .ok (.ireturn, 1) := by decide +kernel
theorem dX4_count_71 : decode cX4_count 71 = .ok (.aload_n 0, 1) := by decide +kernel
theorem dX4_count_72 : decode cX4_count 72 = .ok (.getfield 10, 3) := by decide +kernel
theorem dX4_count_75 : decode cX4_count 75 = .ok (.aload_n 0, 1) := by decide +kernel
theorem dX4_count_76 : decode cX4_count 76 = .ok (.getfield 10, 3) := by decide +kernel
theorem dX4_count_79 : decode cX4_count 79 = .ok (.getfield 170, 3) := by decide +kernel
theorem dX4_count_82 : decode cX4_count 82 = .ok (.invokevirtual 76, 3) := by decide +kernel
theorem dX4_count_85 : decode cX4_count 85 = .ok (.ireturn, 1) := by decide +kernel
theorem dX4_count_86 : decode cX4_count 86 = .ok (.aload_n 0, 1) := by decide +kernel
theorem dX4_count_87 : decode cX4_count 87 = .ok (.ldc 55, 2) := by decide +kernel
theorem dX4_count_89 : decode cX4_count 89 = .ok (.invokevirtual 56, 3) := by decide +kernel
theorem dX4_count_92 : decode cX4_count 92 = .ok (.ireturn, 1) := by decide +kernel
set_option maxRecDepth 20000 in
theorem ggX4_status_X4_isFrom : GoodIn wsX4_status wsX4_isFrom := goodIn_r _ [6] (by decide +kernel) (by decide +kernel)
set_option maxRecDepth 20000 in
theorem gX4_status_X4_isFrom : GoodIn wsX4_status (va_wsS RX4 44 yX4_isFrom wsX4_isFrom) := goodIn_app (goodIn_of _ (by decide +kernel)) ggX4_status_X4_isFrom
set_option maxRecDepth 20000 in
theorem ggX4_status_X4_found : GoodIn wsX4_status wsX4_found := goodIn_r _ [10, 2, 1, 3, 4, 5, 6, 11, 12, 13, 14, 15, 16, 17] (by decide +kernel) (by decide +kernel)
set_option maxRecDepth 20000 in
theorem gX4_status_X4_found : GoodIn wsX4_status (wsV RX4 56 RX4 yX4_found wsX4_found) := goodIn_app (goodIn_of _ (by decide +kernel)) ggX4_status_X4_found
theorem dX4_status_0 : decode cX4_status 0 = .ok (.iload_n 1, 1) := by decide +kernel
theorem dX4_status_1 : decode cX4_status 1 = .ok (.iconst (-1), 1) := by decide +kernel
theorem dX4_status_2 : decode cX4_status 2 = .ok (.if_icmp .ne 30, 3) := by decide +kernel
theorem dX4_status_5 : decode cX4_status 5 = .ok (.iconst 0, 1) := by decide +kernel
theorem dX4_status_6 : decode cX4_status 6 = .ok (.istore_n 2, 1) := by decide +kernel
theorem dX4_status_7 : decode cX4_status 7 = .ok (.iconst 0, 1) := by decide +kernel
theorem dX4_status_8 : decode cX4_status 8 = .ok (.istore_n 3, 1) := by decide +kernel
theorem dX4_status_9 : decode cX4_status 9 = .ok (.iload_n 3, 1) := by decide +kernel
theorem dX4_status_10 : decode cX4_status 10 = .ok (.bipush 7, 2) := by decide +kernel
theorem dX4_status_12 : decode cX4_status 12 = .ok (.if_icmp .ge 18, 3) := by decide +kernel
theorem dX4_status_15 : decode cX4_status 15 = .ok (.iload_n 2, 1) := by decide +kernel
theorem dX4_status_16 : decode cX4_status 16 = .ok (.aload_n 0, 1) := by decide +kernel
theorem dX4_status_17 : decode cX4_status 17 = .ok (.getfield 40, 3) := by decide +kernel
theorem dX4_status_20 : decode cX4_status 20 = .ok (.iload_n 3, 1) := by decide +kernel
theorem dX4_status_21 : decode cX4_status 21 = .ok (.iaload, 1) := by decide +kernel
theorem dX4_status_22 : decode cX4_status 22 = .ok (.iadd, 1) := by decide +kernel
theorem dX4_status_23 : decode cX4_status 23 = .ok (.istore_n 2, 1) := by decide +kernel
theorem dX4_status_24 : decode cX4_status 24 = .ok (.iinc 3 1, 3) := by decide +kernel
theorem dX4_status_27 : decode cX4_status 27 = .ok (.goto (-18), 3) := by decide +kernel
theorem dX4_status_30 : decode cX4_status 30 = .ok (.iload_n 2, 1) := by decide +kernel
theorem dX4_status_31 : decode cX4_status 31 = .ok (.ireturn, 1) := by decide +kernel
theorem dX4_status_32 : decode cX4_status 32 = .ok (.iconst 0, 1) := by decide +kernel
theorem dX4_status_33 : decode cX4_status 33 = .ok (.bipush 6, 2) := by decide +kernel
theorem dX4_status_35 : decode cX4_status 35 = .ok (.iload_n 1, 1) := by decide +kernel
theorem dX4_status_36 : decode cX4_status 36 = .ok (.invokestatic 44, 3) := by decide +kernel
theorem dX4_status_39 : decode cX4_status 39 = .ok (.ifCond .ne 10, 3) := by decide +kernel
theorem dX4_status_42 : decode cX4_status 42 = .ok (.aload_n 0, 1) := by decide +kernel
theorem dX4_status_43 : decode cX4_status 43 = .ok (.ldc 55, 2) := by decide +kernel
theorem dX4_status_45 : decode cX4_status 45 = .ok (.invokevirtual 56, 3) := by decide +kernel
theorem dX4_status_48 : decode cX4_status 48 = .ok (.ireturn, 1) := by decide +kernel
theorem dX4_status_49 : decode cX4_status 49 = .ok (.aload_n 0, 1) := by decide +kernel
theorem dX4_status_50 : decode cX4_status 50 = .ok (.getfield 40, 3) := by decide +kernel
theorem dX4_status_53 : decode cX4_status 53 = .ok (.iload_n 1, 1) := by decide +kernel
theorem dX4_status_54 : decode cX4_status 54 = .ok (.iaload, 1) := by decide +kernel
theorem dX4_status_55 : decode cX4_status 55 = .ok (.ireturn, 1) := by decide +kernel
set_option maxRecDepth 20000 in
theorem ggX4_found_X4_isFrom : GoodIn wsX4_found wsX4_isFrom := goodIn_r _ [6] (by decide +kernel) (by decide +kernel)
set_option maxRecDepth 20000 in
theorem gX4_found_X4_isFrom : GoodIn wsX4_found (va_wsS RX4 44 yX4_isFrom wsX4_isFrom) := goodIn_app (goodIn_of _ (by decide +kernel)) ggX4_found_X4_isFrom
theorem dX4_found_0 : decode cX4_found 0 = .ok (.ldc 55, 2) := by decide +kernel
theorem dX4_found_2 : decode cX4_found 2 = .ok (.iload_n 1, 1) := by decide +kernel
theorem dX4_found_3 : decode cX4_found 3 = .ok (.isub, 1) := by decide +kernel
theorem dX4_found_4 : decode cX4_found 4 = .ok (.istore_n 2, 1) := by decide +kernel
theorem dX4_found_5 : decode cX4_found 5 = .ok (.iconst 0, 1) := by decide +kernel
theorem dX4_found_6 : decode cX4_found 6 = .ok (.bipush 6, 2) := by decide +kernel
theorem dX4_found_8 : decode cX4_found 8 = .ok (.iload_n 2, 1) := by decide +kernel
theorem dX4_found_9 : decode cX4_found 9 = .ok (.invokestatic 44, 3) := by decide +kernel
theorem dX4_found_12 : decode cX4_found 12 = .ok (.ifCond .eq 13, 3) := by decide +kernel
theorem dX4_found_15 : decode cX4_found 15 = .ok (.aload_n 0, 1) := by decide +kernel
theorem dX4_found_16 : decode cX4_found 16 = .ok (.getfield 40, 3) := by decide +kernel
theorem dX4_found_19 : decode cX4_found 19 = .ok (.iload_n 2, 1) := by decide +kernel
theorem dX4_found_20 : decode cX4_found 20 = .ok (.dup2, 1) := by decide +kernel
theorem dX4_found_21 : decode cX4_found 21 = .ok (.iaload, 1) := by decide +kernel
theorem dX4_found_22 : decode cX4_found 22 = .ok (.iconst 1, 1) := by decide +kernel
theorem dX4_found_23 : decode cX4_found 23 = .ok (.iadd, 1) := by decide +kernel
theorem dX4_found_24 : decode cX4_found 24 = .ok (.iastore, 1) := by decide +kernel
theorem dX4_found_25 : decode cX4_found 25 = .ok (.iload_n 1, 1) := by decide +kernel
theorem dX4_found_26 : decode cX4_found 26 = .ok (.ireturn, 1) := by decide +kernel
set_option maxRecDepth 20000 in
theorem ggX4_orNone_X4_found : GoodIn wsX4_orNone wsX4_found := goodIn_r _ [6, 7, 8, 9, 10, 5, 11, 12, 13, 14, 15, 16, 17, 18] (by decide +kernel) (by decide +kernel)
set_option maxRecDepth 20000 in
theorem gX4_orNone_X4_found : GoodIn wsX4_orNone (wsV RX4 56 RX4 yX4_found wsX4_found) := goodIn_app (goodIn_of _ (by decide +kernel)) ggX4_orNone_X4_found
theorem dX4_orNone_0 : decode cX4_orNone 0 = .ok (.iload_n 1, 1) := by decide +kernel
theorem dX4_orNone_1 : decode cX4_orNone 1 = .ok (.ifCond .ge 12, 3) := by decide +kernel
theorem dX4_orNone_4 : decode cX4_orNone 4 = .ok (.aload_n 0, 1) := by decide +kernel
theorem dX4_orNone_5 : decode cX4_orNone 5 = .ok (.ldc 156, 2) := by decide +kernel
theorem dX4_orNone_7 : decode cX4_orNone 7 = .ok (.invokevirtual 56, 3) := by decide +kernel
theorem dX4_orNone_10 : decode cX4_orNone 10 = .ok (.goto 4, 3) := by decide +kernel
theorem dX4_orNone_13 : decode cX4_orNone 13 = .ok (.iload_n 1, 1) := by decide +kernel
theorem dX4_orNone_14 : decode cX4_orNone 14 = .ok (.ireturn, 1) := by decide +kernel
set_option maxRecDepth 20000 in
theorem ggX4_freshTrial_X1_become : GoodIn wsX4_freshTrial wsX1_become := goodIn_r _ [7, 8, 9, 10, 11, 12, 13, 14, 15, 16, 17, 18, 19, 20, 21, 22, 30, 31, 32, 33, 34, 35, 36, 37, 38, 39, 40] (by decide +kernel) (by decide +kernel)
set_option maxRecDepth 20000 in
theorem gX4_freshTrial_X1_become : GoodIn wsX4_freshTrial (wsV RX4 183 RX1 yX1_become wsX1_become) := goodIn_app (goodIn_of _ (by decide +kernel)) ggX4_freshTrial_X1_become
theorem dX4_freshTrial_0 : decode cX4_freshTrial 0 = .ok (.aload_n 0, 1) := by decide +kernel
theorem dX4_freshTrial_1 : decode cX4_freshTrial 1 = .ok (.getfield 16, 3) := by decide +kernel
theorem dX4_freshTrial_4 : decode cX4_freshTrial 4 = .ok (.aload_n 0, 1) := by decide +kernel
theorem dX4_freshTrial_5 : decode cX4_freshTrial 5 = .ok (.getfield 10, 3) := by decide +kernel
theorem dX4_freshTrial_8 : decode cX4_freshTrial 8 = .ok (.invokevirtual 183, 3) := by decide +kernel
theorem dX4_freshTrial_11 : decode cX4_freshTrial 11 = .ok (.aload_n 0, 1) := by decide +kernel
theorem dX4_freshTrial_12 : decode cX4_freshTrial 12 = .ok (.getfield 16, 3) := by decide +kernel
theorem dX4_freshTrial_15 : decode cX4_freshTrial 15 = .ok (.areturn, 1) := by decide +kernel
set_option maxRecDepth 20000 in
theorem ggX4_faultOfBook_X4_isSheet : GoodIn wsX4_faultOfBook wsX4_isSheet := goodIn_r _ [7, 8, 9, 6, 10] (by decide +kernel) (by decide +kernel)
set_option maxRecDepth 20000 in
theorem gX4_faultOfBook_X4_isSheet : GoodIn wsX4_faultOfBook (va_wsS RX4 187 yX4_isSheet wsX4_isSheet) := goodIn_app (goodIn_of _ (by decide +kernel)) ggX4_faultOfBook_X4_isSheet
set_option maxRecDepth 20000 in
theorem ggX4_faultOfBook_X2_isMissing : GoodIn wsX4_faultOfBook wsX2_isMissing := goodIn_r _ [15, 16, 30, 31, 32] (by decide +kernel) (by decide +kernel)
set_option maxRecDepth 20000 in
theorem gX4_faultOfBook_X2_isMissing : GoodIn wsX4_faultOfBook (wsV RX4 200 RX2 yX2_isMissing wsX2_isMissing) := goodIn_app (goodIn_of _ (by decide +kernel)) ggX4_faultOfBook_X2_isMissing
set_option maxRecDepth 20000 in
theorem ggX4_faultOfBook_X4_isPerson : GoodIn wsX4_faultOfBook wsX4_isPerson := goodIn_r _ [20, 21, 22, 8, 9, 6, 10, 23, 24, 25, 26, 27, 28, 29, 33, 34, 35, 36, 37, 38, 39, 40, 41, 42, 43] (by decide +kernel) (by decide +kernel)
set_option maxRecDepth 20000 in
theorem gX4_faultOfBook_X4_isPerson : GoodIn wsX4_faultOfBook (wsV RX4 95 RX4 yX4_isPerson wsX4_isPerson) := goodIn_app (goodIn_of _ (by decide +kernel)) ggX4_faultOfBook_X4_isPerson
theorem dX4_faultOfBook_0 : decode cX4_faultOfBook 0 = .ok (.iload_n 1, 1) := by decide +kernel
theorem dX4_faultOfBook_1 : decode cX4_faultOfBook 1 = .ok (.invokestatic 187, 3) := by decide +kernel
theorem dX4_faultOfBook_4 : decode cX4_faultOfBook 4 = .ok (.ifCond .ne 6, 3) := by decide +kernel
theorem dX4_faultOfBook_7 : decode cX4_faultOfBook 7 = .ok (.ldc 55, 2) := by decide +kernel
theorem dX4_faultOfBook_9 : decode cX4_faultOfBook 9 = .ok (.ireturn, 1) := by decide +kernel
theorem dX4_faultOfBook_10 : decode cX4_faultOfBook 10 = .ok (.aload_n 0, 1) := by decide +kernel
theorem dX4_faultOfBook_11 : decode cX4_faultOfBook 11 = .ok (.getfield 35, 3) := by decide +kernel
theorem dX4_faultOfBook_14 : decode cX4_faultOfBook 14 = .ok (.iload_n 1, 1) := by decide +kernel
theorem dX4_faultOfBook_15 : decode cX4_faultOfBook 15 = .ok (.aaload, 1) := by decide +kernel
theorem dX4_faultOfBook_16 : decode cX4_faultOfBook 16 = .ok (.invokevirtual 200, 3) := by decide +kernel
theorem dX4_faultOfBook_19 : decode cX4_faultOfBook 19 = .ok (.ifCond .eq 6, 3) := by decide +kernel
theorem dX4_faultOfBook_22 : decode cX4_faultOfBook 22 = .ok (.ldc 203, 2) := by decide +kernel
theorem dX4_faultOfBook_24 : decode cX4_faultOfBook 24 = .ok (.ireturn, 1) := by decide +kernel
theorem dX4_faultOfBook_25 : decode cX4_faultOfBook 25 = .ok (.aload_n 0, 1) := by decide +kernel
theorem dX4_faultOfBook_26 : decode cX4_faultOfBook 26 = .ok (.iload_n 2, 1) := by decide +kernel
theorem dX4_faultOfBook_27 : decode cX4_faultOfBook 27 = .ok (.invokevirtual 95, 3) := by decide +kernel
theorem dX4_faultOfBook_30 : decode cX4_faultOfBook 30 = .ok (.ifCond .eq 7, 3) := by decide +kernel
theorem dX4_faultOfBook_33 : decode cX4_faultOfBook 33 = .ok (.iconst 0, 1) := by decide +kernel
theorem dX4_faultOfBook_34 : decode cX4_faultOfBook 34 = .ok (.goto 5, 3) := by decide +kernel
theorem dX4_faultOfBook_37 : decode cX4_faultOfBook 37 = .ok (.ldc 55, 2) := by decide +kernel
theorem dX4_faultOfBook_39 : decode cX4_faultOfBook 39 = .ok (.ireturn, 1) := by decide +kernel
set_option maxRecDepth 20000 in
theorem ggX4_isPerson_X4_isFrom : GoodIn wsX4_isPerson wsX4_isFrom := goodIn_r _ [6] (by decide +kernel) (by decide +kernel)
set_option maxRecDepth 20000 in
theorem gX4_isPerson_X4_isFrom : GoodIn wsX4_isPerson (va_wsS RX4 44 yX4_isFrom wsX4_isFrom) := goodIn_app (goodIn_of _ (by decide +kernel)) ggX4_isPerson_X4_isFrom
theorem dX4_isPerson_0 : decode cX4_isPerson 0 = .ok (.iconst 0, 1) := by decide +kernel
theorem dX4_isPerson_1 : decode cX4_isPerson 1 = .ok (.aload_n 0, 1) := by decide +kernel
theorem dX4_isPerson_2 : decode cX4_isPerson 2 = .ok (.getfield 10, 3) := by decide +kernel
theorem dX4_isPerson_5 : decode cX4_isPerson 5 = .ok (.getfield 157, 3) := by decide +kernel
theorem dX4_isPerson_8 : decode cX4_isPerson 8 = .ok (.iconst 1, 1) := by decide +kernel
theorem dX4_isPerson_9 : decode cX4_isPerson 9 = .ok (.isub, 1) := by decide +kernel
theorem dX4_isPerson_10 : decode cX4_isPerson 10 = .ok (.iload_n 1, 1) := by decide +kernel
theorem dX4_isPerson_11 : decode cX4_isPerson 11 = .ok (.invokestatic 44, 3) := by decide +kernel
theorem dX4_isPerson_14 : decode cX4_isPerson 14 = .ok (.ireturn, 1) := by decide +kernel
set_option maxRecDepth 20000 in
theorem ggX4_isPair_X4_isPerson : GoodIn wsX4_isPair wsX4_isPerson := goodIn_r _ [5, 6, 7, 8, 9, 4, 10, 11, 12, 13, 14, 15, 16, 17, 18, 19, 20, 21, 22, 23, 24, 25, 26, 27, 28] (by decide +kernel) (by decide +kernel)
set_option maxRecDepth 20000 in
theorem gX4_isPair_X4_isPerson : GoodIn wsX4_isPair (wsV RX4 95 RX4 yX4_isPerson wsX4_isPerson) := goodIn_app (goodIn_of _ (by decide +kernel)) ggX4_isPair_X4_isPerson
theorem dX4_isPair_0 : decode cX4_isPair 0 = .ok (.aload_n 0, 1) := by decide +kernel
theorem dX4_isPair_1 : decode cX4_isPair 1 = .ok (.iload_n 1, 1) := by decide +kernel
theorem dX4_isPair_2 : decode cX4_isPair 2 = .ok (.invokevirtual 95, 3) := by decide +kernel
theorem dX4_isPair_5 : decode cX4_isPair 5 = .ok (.ifCond .eq 20, 3) := by decide +kernel
theorem dX4_isPair_8 : decode cX4_isPair 8 = .ok (.aload_n 0, 1) := by decide +kernel
theorem dX4_isPair_9 : decode cX4_isPair 9 = .ok (.iload_n 2, 1) := by decide +kernel
theorem dX4_isPair_10 : decode cX4_isPair 10 = .ok (.invokevirtual 95, 3) := by decide +kernel
theorem dX4_isPair_13 : decode cX4_isPair 13 = .ok (.ifCond .eq 12, 3) := by decide +kernel
theorem dX4_isPair_16 : decode cX4_isPair 16 = .ok (.iload_n 1, 1) := by decide +kernel
theorem dX4_isPair_17 : decode cX4_isPair 17 = .ok (.iload_n 2, 1) := by decide +kernel
theorem dX4_isPair_18 : decode cX4_isPair 18 = .ok (.if_icmp .eq 7, 3) := by decide +kernel
theorem dX4_isPair_21 : decode cX4_isPair 21 = .ok (.iconst 1, 1) := by decide +kernel
theorem dX4_isPair_22 : decode cX4_isPair 22 = .ok (.goto 4, 3) := by decide +kernel
theorem dX4_isPair_25 : decode cX4_isPair 25 = .ok (.iconst 0, 1) := by decide +kernel
theorem dX4_isPair_26 : decode cX4_isPair 26 = .ok (.ireturn, 1) := by decide +kernel
set_option maxRecDepth 20000 in
theorem ggX4_isSheet_X4_isFrom : GoodIn wsX4_isSheet wsX4_isFrom := goodIn_r _ [4] (by decide +kernel) (by decide +kernel)
set_option maxRecDepth 20000 in
theorem gX4_isSheet_X4_isFrom : GoodIn wsX4_isSheet (va_wsS RX4 44 yX4_isFrom wsX4_isFrom) := goodIn_app (goodIn_of _ (by decide +kernel)) ggX4_isSheet_X4_isFrom
theorem dX4_isSheet_0 : decode cX4_isSheet 0 = .ok (.iconst 0, 1) := by decide +kernel
theorem dX4_isSheet_1 : decode cX4_isSheet 1 = .ok (.iconst 3, 1) := by decide +kernel
theorem dX4_isSheet_2 : decode cX4_isSheet 2 = .ok (.iload_n 0, 1) := by decide +kernel
theorem dX4_isSheet_3 : decode cX4_isSheet 3 = .ok (.invokestatic 44, 3) := by decide +kernel
theorem dX4_isSheet_6 : decode cX4_isSheet 6 = .ok (.ireturn, 1) := by decide +kernel
set_option maxRecDepth 20000 in
theorem ggX4_isWeighed_X4_isFrom : GoodIn wsX4_isWeighed wsX4_isFrom := goodIn_r _ [4] (by decide +kernel) (by decide +kernel)
set_option maxRecDepth 20000 in
theorem gX4_isWeighed_X4_isFrom : GoodIn wsX4_isWeighed (va_wsS RX4 44 yX4_isFrom wsX4_isFrom) := goodIn_app (goodIn_of _ (by decide +kernel)) ggX4_isWeighed_X4_isFrom
theorem dX4_isWeighed_0 : decode cX4_isWeighed 0 = .ok (.iconst 1, 1) := by decide +kernel
theorem dX4_isWeighed_1 : decode cX4_isWeighed 1 = .ok (.bipush 100, 2) := by decide +kernel
theorem dX4_isWeighed_3 : decode cX4_isWeighed 3 = .ok (.iload_n 0, 1) := by decide +kernel
theorem dX4_isWeighed_4 : decode cX4_isWeighed 4 = .ok (.invokestatic 44, 3) := by decide +kernel
theorem dX4_isWeighed_7 : decode cX4_isWeighed 7 = .ok (.ireturn, 1) := by decide +kernel
theorem dX4_isFrom_0 : decode cX4_isFrom 0 = .ok (.iload_n 2, 1) := by decide +kernel
theorem dX4_isFrom_1 : decode cX4_isFrom 1 = .ok (.iload_n 0, 1) := by decide +kernel
theorem dX4_isFrom_2 : decode cX4_isFrom 2 = .ok (.if_icmp .lt 12, 3) := by decide +kernel
theorem dX4_isFrom_5 : decode cX4_isFrom 5 = .ok (.iload_n 2, 1) := by decide +kernel
theorem dX4_isFrom_6 : decode cX4_isFrom 6 = .ok (.iload_n 1, 1) := by decide +kernel
theorem dX4_isFrom_7 : decode cX4_isFrom 7 = .ok (.if_icmp .gt 7, 3) := by decide +kernel
theorem dX4_isFrom_10 : decode cX4_isFrom 10 = .ok (.iconst 1, 1) := by decide +kernel
theorem dX4_isFrom_11 : decode cX4_isFrom 11 = .ok (.goto 4, 3) := by decide +kernel
theorem dX4_isFrom_14 : decode cX4_isFrom 14 = .ok (.iconst 0, 1) := by decide +kernel
theorem dX4_isFrom_15 : decode cX4_isFrom 15 = .ok (.ireturn, 1) := by decide +kernel
theorem dX4_mostOf_0 : decode cX4_mostOf 0 = .ok (.iload_n 0, 1) := by decide +kernel
theorem dX4_mostOf_1 : decode cX4_mostOf 1 = .ok (.tableswitch 42 2 5 #[31, 34, 42, 38], 31) := by decide +kernel
theorem dX4_mostOf_32 : decode cX4_mostOf 32 = .ok (.bipush 9, 2) := by decide +kernel
theorem dX4_mostOf_34 : decode cX4_mostOf 34 = .ok (.ireturn, 1) := by decide +kernel
theorem dX4_mostOf_35 : decode cX4_mostOf 35 = .ok (.sipush 999, 3) := by decide +kernel
theorem dX4_mostOf_38 : decode cX4_mostOf 38 = .ok (.ireturn, 1) := by decide +kernel
theorem dX4_mostOf_39 : decode cX4_mostOf 39 = .ok (.sipush 999, 3) := by decide +kernel
theorem dX4_mostOf_42 : decode cX4_mostOf 42 = .ok (.ireturn, 1) := by decide +kernel
theorem dX4_mostOf_43 : decode cX4_mostOf 43 = .ok (.iconst 1, 1) := by decide +kernel
theorem dX4_mostOf_44 : decode cX4_mostOf 44 = .ok (.ireturn, 1) := by decide +kernel
