theorem dX5_init_0 : decode cX5_init 0 = .ok (.aload_n 0, 1) := by decide +kernel
theorem dX5_init_1 : decode cX5_init 1 = .ok (.invokespecial 3, 3) := by decide +kernel
theorem dX5_init_4 : decode cX5_init 4 = .ok (.aload_n 0, 1) := by decide +kernel
theorem dX5_init_5 : decode cX5_init 5 = .ok (.bipush 53, 2) := by decide +kernel
theorem dX5_init_7 : decode cX5_init 7 = .ok (.newarray .int, 2) := by decide +kernel
theorem dX5_init_9 : decode cX5_init 9 = .ok (.putfield 9, 3) := by decide +kernel
theorem dX5_init_12 : decode cX5_init 12 = .ok (.aload_n 0, 1) := by decide +kernel
theorem dX5_init_13 : decode cX5_init 13 = .ok (.bipush 53, 2) := by decide +kernel
theorem dX5_init_15 : decode cX5_init 15 = .ok (.newarray .int, 2) := by decide +kernel
theorem dX5_init_17 : decode cX5_init 17 = .ok (.putfield 13, 3) := by decide +kernel
theorem dX5_init_20 : decode cX5_init 20 = .ok (.aload_n 0, 1) := by decide +kernel
theorem dX5_init_21 : decode cX5_init 21 = .ok (.bipush 53, 2) := by decide +kernel
theorem dX5_init_23 : decode cX5_init 23 = .ok (.newarray .int, 2) := by decide +kernel
theorem dX5_init_25 : decode cX5_init 25 = .ok (.putfield 16, 3) := by decide +kernel
theorem dX5_init_28 : decode cX5_init 28 = .ok (.aload_n 0, 1) := by decide +kernel
theorem dX5_init_29 : decode cX5_init 29 = .ok (.bipush 7, 2) := by decide +kernel
theorem dX5_init_31 : decode cX5_init 31 = .ok (.newarray .int, 2) := by decide +kernel
theorem dX5_init_33 : decode cX5_init 33 = .ok (.putfield 19, 3) := by decide +kernel
theorem dX5_init_36 : decode cX5_init 36 = .ok (.aload_n 0, 1) := by decide +kernel
theorem dX5_init_37 : decode cX5_init 37 = .ok (.bipush 120, 2) := by decide +kernel
theorem dX5_init_39 : decode cX5_init 39 = .ok (.newarray .int, 2) := by decide +kernel
theorem dX5_init_41 : decode cX5_init 41 = .ok (.putfield 22, 3) := by decide +kernel
theorem dX5_init_44 : decode cX5_init 44 = .ok (.aload_n 0, 1) := by decide +kernel
theorem dX5_init_45 : decode cX5_init 45 = .ok (.iconst 4, 1) := by decide +kernel
theorem dX5_init_46 : decode cX5_init 46 = .ok (.newarray .int, 2) := by decide +kernel
theorem dX5_init_48 : decode cX5_init 48 = .ok (.putfield 25, 3) := by decide +kernel
theorem dX5_init_51 : decode cX5_init 51 = .ok (.aload_n 0, 1) := by decide +kernel
theorem dX5_init_52 : decode cX5_init 52 = .ok (.iconst 4, 1) := by decide +kernel
theorem dX5_init_53 : decode cX5_init 53 = .ok (.newarray .int, 2) := by decide +kernel
theorem dX5_init_55 : decode cX5_init 55 = .ok (.putfield 28, 3) := by decide +kernel
theorem dX5_init_58 : decode cX5_init 58 = .ok (.aload_n 0, 1) := by decide +kernel
theorem dX5_init_59 : decode cX5_init 59 = .ok (.sipush 160, 3) := by decide +kernel
theorem dX5_init_62 : decode cX5_init 62 = .ok (.newarray .long, 2) := by decide +kernel
theorem dX5_init_64 : decode cX5_init 64 = .ok (.putfield 31, 3) := by decide +kernel
theorem dX5_init_67 : decode cX5_init 67 = .ok (.aload_n 0, 1) := by decide +kernel
theorem dX5_init_68 : decode cX5_init 68 = .ok (.getfield 9, 3) := by decide +kernel
theorem dX5_init_71 : decode cX5_init 71 = .ok (.iconst 1, 1) := by decide +kernel
theorem dX5_init_72 : decode cX5_init 72 = .ok (.bipush 20, 2) := by decide +kernel
theorem dX5_init_74 : decode cX5_init 74 = .ok (.iastore, 1) := by decide +kernel
theorem dX5_init_75 : decode cX5_init 75 = .ok (.aload_n 0, 1) := by decide +kernel
theorem dX5_init_76 : decode cX5_init 76 = .ok (.getfield 9, 3) := by decide +kernel
theorem dX5_init_79 : decode cX5_init 79 = .ok (.iconst 3, 1) := by decide +kernel
theorem dX5_init_80 : decode cX5_init 80 = .ok (.iconst (-1), 1) := by decide +kernel
theorem dX5_init_81 : decode cX5_init 81 = .ok (.iastore, 1) := by decide +kernel
theorem dX5_init_82 : decode cX5_init 82 = .ok (.return_, 1) := by decide +kernel
theorem dX5_finds_0 : decode cX5_finds 0 = .ok (.aload_n 0, 1) := by decide +kernel
theorem dX5_finds_1 : decode cX5_finds 1 = .ok (.getfield 19, 3) := by decide +kernel
theorem dX5_finds_4 : decode cX5_finds 4 = .ok (.ldc 35, 2) := by decide +kernel
theorem dX5_finds_6 : decode cX5_finds 6 = .ok (.iload_n 1, 1) := by decide +kernel
theorem dX5_finds_7 : decode cX5_finds 7 = .ok (.isub, 1) := by decide +kernel
theorem dX5_finds_8 : decode cX5_finds 8 = .ok (.dup2, 1) := by decide +kernel
theorem dX5_finds_9 : decode cX5_finds 9 = .ok (.iaload, 1) := by decide +kernel
theorem dX5_finds_10 : decode cX5_finds 10 = .ok (.iconst 1, 1) := by decide +kernel
theorem dX5_finds_11 : decode cX5_finds 11 = .ok (.iadd, 1) := by decide +kernel
theorem dX5_finds_12 : decode cX5_finds 12 = .ok (.iastore, 1) := by decide +kernel
theorem dX5_finds_13 : decode cX5_finds 13 = .ok (.iload_n 1, 1) := by decide +kernel
theorem dX5_finds_14 : decode cX5_finds 14 = .ok (.ireturn, 1) := by decide +kernel
set_option maxRecDepth 20000 in
theorem ggX5_orNone_X5_finds : GoodIn wsX5_orNone wsX5_finds := goodIn_r _ [6, 7, 8, 9, 10, 11, 12, 13, 14, 15, 16, 17, 18, 19, 20, 21, 22, 23] (by decide +kernel) (by decide +kernel)
set_option maxRecDepth 20000 in
theorem gX5_orNone_X5_finds : GoodIn wsX5_orNone (wsV RX5 37 RX5 yX5_finds wsX5_finds) := goodIn_app (goodIn_of _ (by decide +kernel)) ggX5_orNone_X5_finds
theorem dX5_orNone_0 : decode cX5_orNone 0 = .ok (.iload_n 1, 1) := by decide +kernel
theorem dX5_orNone_1 : decode cX5_orNone 1 = .ok (.ifCond .ge 12, 3) := by decide +kernel
theorem dX5_orNone_4 : decode cX5_orNone 4 = .ok (.aload_n 0, 1) := by decide +kernel
theorem dX5_orNone_5 : decode cX5_orNone 5 = .ok (.ldc 36, 2) := by decide +kernel
theorem dX5_orNone_7 : decode cX5_orNone 7 = .ok (.invokevirtual 37, 3) := by decide +kernel
theorem dX5_orNone_10 : decode cX5_orNone 10 = .ok (.goto 4, 3) := by decide +kernel
theorem dX5_orNone_13 : decode cX5_orNone 13 = .ok (.iload_n 1, 1) := by decide +kernel
theorem dX5_orNone_14 : decode cX5_orNone 14 = .ok (.ireturn, 1) := by decide +kernel
theorem dX5_in_0 : decode cX5_in 0 = .ok (.lload_n 0, 1) := by decide +kernel
theorem dX5_in_1 : decode cX5_in 1 = .ok (.iload_n 2, 1) := by decide +kernel
theorem dX5_in_2 : decode cX5_in 2 = .ok (.i2l, 1) := by decide +kernel
theorem dX5_in_3 : decode cX5_in 3 = .ok (.lcmp, 1) := by decide +kernel
theorem dX5_in_4 : decode cX5_in 4 = .ok (.ifCond .lt 14, 3) := by decide +kernel
theorem dX5_in_7 : decode cX5_in 7 = .ok (.lload_n 0, 1) := by decide +kernel
theorem dX5_in_8 : decode cX5_in 8 = .ok (.iload_n 3, 1) := by decide +kernel
theorem dX5_in_9 : decode cX5_in 9 = .ok (.i2l, 1) := by decide +kernel
theorem dX5_in_10 : decode cX5_in 10 = .ok (.lcmp, 1) := by decide +kernel
theorem dX5_in_11 : decode cX5_in 11 = .ok (.ifCond .gt 7, 3) := by decide +kernel
theorem dX5_in_14 : decode cX5_in 14 = .ok (.iconst 1, 1) := by decide +kernel
theorem dX5_in_15 : decode cX5_in 15 = .ok (.goto 4, 3) := by decide +kernel
theorem dX5_in_18 : decode cX5_in 18 = .ok (.iconst 0, 1) := by decide +kernel
theorem dX5_in_19 : decode cX5_in 19 = .ok (.ireturn, 1) := by decide +kernel
theorem dX5_held_0 : decode cX5_held 0 = .ok (.iload_n 0, 1) := by decide +kernel
theorem dX5_held_1 : decode cX5_held 1 = .ok (.iload_n 1, 1) := by decide +kernel
theorem dX5_held_2 : decode cX5_held 2 = .ok (.if_icmp .ge 7, 3) := by decide +kernel
theorem dX5_held_5 : decode cX5_held 5 = .ok (.iload_n 1, 1) := by decide +kernel
theorem dX5_held_6 : decode cX5_held 6 = .ok (.goto 13, 3) := by decide +kernel
theorem dX5_held_9 : decode cX5_held 9 = .ok (.iload_n 0, 1) := by decide +kernel
theorem dX5_held_10 : decode cX5_held 10 = .ok (.iload_n 2, 1) := by decide +kernel
theorem dX5_held_11 : decode cX5_held 11 = .ok (.if_icmp .le 7, 3) := by decide +kernel
theorem dX5_held_14 : decode cX5_held 14 = .ok (.iload_n 2, 1) := by decide +kernel
theorem dX5_held_15 : decode cX5_held 15 = .ok (.goto 4, 3) := by decide +kernel
theorem dX5_held_18 : decode cX5_held 18 = .ok (.iload_n 0, 1) := by decide +kernel
theorem dX5_held_19 : decode cX5_held 19 = .ok (.ireturn, 1) := by decide +kernel
theorem dX5_copyAll_0 : decode cX5_copyAll 0 = .ok (.iconst 0, 1) := by decide +kernel
theorem dX5_copyAll_1 : decode cX5_copyAll 1 = .ok (.istore_n 2, 1) := by decide +kernel
theorem dX5_copyAll_2 : decode cX5_copyAll 2 = .ok (.iload_n 2, 1) := by decide +kernel
theorem dX5_copyAll_3 : decode cX5_copyAll 3 = .ok (.bipush 53, 2) := by decide +kernel
theorem dX5_copyAll_5 : decode cX5_copyAll 5 = .ok (.if_icmp .ge 15, 3) := by decide +kernel
theorem dX5_copyAll_8 : decode cX5_copyAll 8 = .ok (.aload_n 1, 1) := by decide +kernel
theorem dX5_copyAll_9 : decode cX5_copyAll 9 = .ok (.iload_n 2, 1) := by decide +kernel
theorem dX5_copyAll_10 : decode cX5_copyAll 10 = .ok (.aload_n 0, 1) := by decide +kernel
theorem dX5_copyAll_11 : decode cX5_copyAll 11 = .ok (.iload_n 2, 1) := by decide +kernel
theorem dX5_copyAll_12 : decode cX5_copyAll 12 = .ok (.iaload, 1) := by decide +kernel
theorem dX5_copyAll_13 : decode cX5_copyAll 13 = .ok (.iastore, 1) := by decide +kernel
theorem dX5_copyAll_14 : decode cX5_copyAll 14 = .ok (.iinc 2 1, 3) := by decide +kernel
theorem dX5_copyAll_17 : decode cX5_copyAll 17 = .ok (.goto (-15), 3) := by decide +kernel
theorem dX5_copyAll_20 : decode cX5_copyAll 20 = .ok (.return_, 1) := by decide +kernel
theorem dX5_bits_0 : decode cX5_bits 0 = .ok (.iconst 0, 1) := by decide +kernel
theorem dX5_bits_1 : decode cX5_bits 1 = .ok (.istore_n 1, 1) := by decide +kernel
theorem dX5_bits_2 : decode cX5_bits 2 = .ok (.iload_n 0, 1) := by decide +kernel
theorem dX5_bits_3 : decode cX5_bits 3 = .ok (.istore_n 2, 1) := by decide +kernel
theorem dX5_bits_4 : decode cX5_bits 4 = .ok (.iload_n 2, 1) := by decide +kernel
theorem dX5_bits_5 : decode cX5_bits 5 = .ok (.ifCond .eq 15, 3) := by decide +kernel
theorem dX5_bits_8 : decode cX5_bits 8 = .ok (.iinc 1 1, 3) := by decide +kernel
theorem dX5_bits_11 : decode cX5_bits 11 = .ok (.iload_n 2, 1) := by decide +kernel
theorem dX5_bits_12 : decode cX5_bits 12 = .ok (.iload_n 2, 1) := by decide +kernel
theorem dX5_bits_13 : decode cX5_bits 13 = .ok (.iconst 1, 1) := by decide +kernel
theorem dX5_bits_14 : decode cX5_bits 14 = .ok (.isub, 1) := by decide +kernel
theorem dX5_bits_15 : decode cX5_bits 15 = .ok (.iand, 1) := by decide +kernel
theorem dX5_bits_16 : decode cX5_bits 16 = .ok (.istore_n 2, 1) := by decide +kernel
theorem dX5_bits_17 : decode cX5_bits 17 = .ok (.goto (-13), 3) := by decide +kernel
theorem dX5_bits_20 : decode cX5_bits 20 = .ok (.iload_n 1, 1) := by decide +kernel
theorem dX5_bits_21 : decode cX5_bits 21 = .ok (.ireturn, 1) := by decide +kernel
theorem dX5_becomes_0 : decode cX5_becomes 0 = .ok (.aload_n 0, 1) := by decide +kernel
theorem dX5_becomes_1 : decode cX5_becomes 1 = .ok (.getfield 9, 3) := by decide +kernel
theorem dX5_becomes_4 : decode cX5_becomes 4 = .ok (.iload_n 1, 1) := by decide +kernel
theorem dX5_becomes_5 : decode cX5_becomes 5 = .ok (.iaload, 1) := by decide +kernel
theorem dX5_becomes_6 : decode cX5_becomes 6 = .ok (.istore_n 3, 1) := by decide +kernel
theorem dX5_becomes_7 : decode cX5_becomes 7 = .ok (.aload_n 0, 1) := by decide +kernel
theorem dX5_becomes_8 : decode cX5_becomes 8 = .ok (.getfield 9, 3) := by decide +kernel
theorem dX5_becomes_11 : decode cX5_becomes 11 = .ok (.iload_n 1, 1) := by decide +kernel
theorem dX5_becomes_12 : decode cX5_becomes 12 = .ok (.iload_n 2, 1) := by decide +kernel
theorem dX5_becomes_13 : decode cX5_becomes 13 = .ok (.iastore, 1) := by decide +kernel
theorem dX5_becomes_14 : decode cX5_becomes 14 = .ok (.iload_n 3, 1) := by decide +kernel
theorem dX5_becomes_15 : decode cX5_becomes 15 = .ok (.ireturn, 1) := by decide +kernel
set_option maxRecDepth 20000 in
theorem ggX5_isPerson_X5_in : GoodIn wsX5_isPerson wsX5_in := goodIn_r _ [5] (by decide +kernel) (by decide +kernel)
set_option maxRecDepth 20000 in
theorem gX5_isPerson_X5_in : GoodIn wsX5_isPerson (va_wsS RX5 41 yX5_in wsX5_in) := goodIn_app (goodIn_of _ (by decide +kernel)) ggX5_isPerson_X5_in
theorem dX5_isPerson_0 : decode cX5_isPerson 0 = .ok (.iload_n 1, 1) := by decide +kernel
theorem dX5_isPerson_1 : decode cX5_isPerson 1 = .ok (.i2l, 1) := by decide +kernel
theorem dX5_isPerson_2 : decode cX5_isPerson 2 = .ok (.iconst 0, 1) := by decide +kernel
theorem dX5_isPerson_3 : decode cX5_isPerson 3 = .ok (.aload_n 0, 1) := by decide +kernel
theorem dX5_isPerson_4 : decode cX5_isPerson 4 = .ok (.getfield 9, 3) := by decide +kernel
theorem dX5_isPerson_7 : decode cX5_isPerson 7 = .ok (.iconst 4, 1) := by decide +kernel
theorem dX5_isPerson_8 : decode cX5_isPerson 8 = .ok (.iaload, 1) := by decide +kernel
theorem dX5_isPerson_9 : decode cX5_isPerson 9 = .ok (.iconst 1, 1) := by decide +kernel
theorem dX5_isPerson_10 : decode cX5_isPerson 10 = .ok (.isub, 1) := by decide +kernel
theorem dX5_isPerson_11 : decode cX5_isPerson 11 = .ok (.invokestatic 41, 3) := by decide +kernel
theorem dX5_isPerson_14 : decode cX5_isPerson 14 = .ok (.ireturn, 1) := by decide +kernel
theorem dX5_it_0 : decode cX5_it 0 = .ok (.aload_n 0, 1) := by decide +kernel
theorem dX5_it_1 : decode cX5_it 1 = .ok (.getfield 9, 3) := by decide +kernel
theorem dX5_it_4 : decode cX5_it 4 = .ok (.iconst 5, 1) := by decide +kernel
theorem dX5_it_5 : decode cX5_it 5 = .ok (.bipush 6, 2) := by decide +kernel
theorem dX5_it_7 : decode cX5_it 7 = .ok (.iload_n 1, 1) := by decide +kernel
theorem dX5_it_8 : decode cX5_it 8 = .ok (.imul, 1) := by decide +kernel
theorem dX5_it_9 : decode cX5_it 9 = .ok (.iadd, 1) := by decide +kernel
theorem dX5_it_10 : decode cX5_it 10 = .ok (.iload_n 2, 1) := by decide +kernel
theorem dX5_it_11 : decode cX5_it 11 = .ok (.iadd, 1) := by decide +kernel
theorem dX5_it_12 : decode cX5_it 12 = .ok (.iaload, 1) := by decide +kernel
theorem dX5_it_13 : decode cX5_it 13 = .ok (.ireturn, 1) := by decide +kernel
theorem dX5_put_0 : decode cX5_put 0 = .ok (.aload_n 0, 1) := by decide +kernel
theorem dX5_put_1 : decode cX5_put 1 = .ok (.getfield 9, 3) := by decide +kernel
theorem dX5_put_4 : decode cX5_put 4 = .ok (.iconst 5, 1) := by decide +kernel
theorem dX5_put_5 : decode cX5_put 5 = .ok (.bipush 6, 2) := by decide +kernel
theorem dX5_put_7 : decode cX5_put 7 = .ok (.iload_n 1, 1) := by decide +kernel
theorem dX5_put_8 : decode cX5_put 8 = .ok (.imul, 1) := by decide +kernel
theorem dX5_put_9 : decode cX5_put 9 = .ok (.iadd, 1) := by decide +kernel
theorem dX5_put_10 : decode cX5_put 10 = .ok (.iload_n 2, 1) := by decide +kernel
theorem dX5_put_11 : decode cX5_put 11 = .ok (.iadd, 1) := by decide +kernel
theorem dX5_put_12 : decode cX5_put 12 = .ok (.iload_n 3, 1) := by decide +kernel
theorem dX5_put_13 : decode cX5_put 13 = .ok (.iastore, 1) := by decide +kernel
theorem dX5_put_14 : decode cX5_put 14 = .ok (.return_, 1) := by decide +kernel
set_option maxRecDepth 20000 in
theorem ggX5_goesBy_X5_it : GoodIn wsX5_goesBy wsX5_it := goodIn_r _ [5, 6, 10, 11, 12, 13, 14, 15, 16, 17, 18, 19, 20, 21, 22, 23, 24] (by decide +kernel) (by decide +kernel)
set_option maxRecDepth 20000 in
theorem gX5_goesBy_X5_it : GoodIn wsX5_goesBy (wsV RX5 45 RX5 yX5_it wsX5_it) := goodIn_app (goodIn_of _ (by decide +kernel)) ggX5_goesBy_X5_it
set_option maxRecDepth 20000 in
theorem ggX5_goesBy_X5_held : GoodIn wsX5_goesBy wsX5_held := goodIn_r _ [9] (by decide +kernel) (by decide +kernel)
set_option maxRecDepth 20000 in
theorem gX5_goesBy_X5_held : GoodIn wsX5_goesBy (va_wsS RX5 49 yX5_held wsX5_held) := goodIn_app (goodIn_of _ (by decide +kernel)) ggX5_goesBy_X5_held
theorem dX5_goesBy_0 : decode cX5_goesBy 0 = .ok (.aload_n 0, 1) := by decide +kernel
theorem dX5_goesBy_1 : decode cX5_goesBy 1 = .ok (.iload_n 1, 1) := by decide +kernel
theorem dX5_goesBy_2 : decode cX5_goesBy 2 = .ok (.iconst 2, 1) := by decide +kernel
theorem dX5_goesBy_3 : decode cX5_goesBy 3 = .ok (.invokevirtual 45, 3) := by decide +kernel
theorem dX5_goesBy_6 : decode cX5_goesBy 6 = .ok (.istore_n 3, 1) := by decide +kernel
theorem dX5_goesBy_7 : decode cX5_goesBy 7 = .ok (.iload_n 2, 1) := by decide +kernel
theorem dX5_goesBy_8 : decode cX5_goesBy 8 = .ok (.ifCond .ne 7, 3) := by decide +kernel
theorem dX5_goesBy_11 : decode cX5_goesBy 11 = .ok (.iconst 4, 1) := by decide +kernel
theorem dX5_goesBy_12 : decode cX5_goesBy 12 = .ok (.goto 14, 3) := by decide +kernel
theorem dX5_goesBy_15 : decode cX5_goesBy 15 = .ok (.iload_n 3, 1) := by decide +kernel
theorem dX5_goesBy_16 : decode cX5_goesBy 16 = .ok (.ifCond .le 8, 3) := by decide +kernel
theorem dX5_goesBy_19 : decode cX5_goesBy 19 = .ok (.bipush 6, 2) := by decide +kernel
theorem dX5_goesBy_21 : decode cX5_goesBy 21 = .ok (.goto 5, 3) := by decide +kernel
theorem dX5_goesBy_24 : decode cX5_goesBy 24 = .ok (.bipush 7, 2) := by decide +kernel
theorem dX5_goesBy_26 : decode cX5_goesBy 26 = .ok (.istore 4, 2) := by decide +kernel
theorem dX5_goesBy_28 : decode cX5_goesBy 28 = .ok (.iconst 4, 1) := by decide +kernel
theorem dX5_goesBy_29 : decode cX5_goesBy 29 = .ok (.istore 5, 2) := by decide +kernel
theorem dX5_goesBy_31 : decode cX5_goesBy 31 = .ok (.aload_n 0, 1) := by decide +kernel
theorem dX5_goesBy_32 : decode cX5_goesBy 32 = .ok (.iload_n 1, 1) := by decide +kernel
theorem dX5_goesBy_33 : decode cX5_goesBy 33 = .ok (.iconst 0, 1) := by decide +kernel
theorem dX5_goesBy_34 : decode cX5_goesBy 34 = .ok (.invokevirtual 45, 3) := by decide +kernel
theorem dX5_goesBy_37 : decode cX5_goesBy 37 = .ok (.tableswitch 53 2 5 #[31, 37, 44, 31], 31) := by decide +kernel
theorem dX5_goesBy_68 : decode cX5_goesBy 68 = .ok (.iconst 3, 1) := by decide +kernel
theorem dX5_goesBy_69 : decode cX5_goesBy 69 = .ok (.istore 5, 2) := by decide +kernel
theorem dX5_goesBy_71 : decode cX5_goesBy 71 = .ok (.goto 19, 3) := by decide +kernel
theorem dX5_goesBy_74 : decode cX5_goesBy 74 = .ok (.iload 4, 2) := by decide +kernel
theorem dX5_goesBy_76 : decode cX5_goesBy 76 = .ok (.istore 5, 2) := by decide +kernel
theorem dX5_goesBy_78 : decode cX5_goesBy 78 = .ok (.goto 12, 3) := by decide +kernel
theorem dX5_goesBy_81 : decode cX5_goesBy 81 = .ok (.iload 4, 2) := by decide +kernel
theorem dX5_goesBy_83 : decode cX5_goesBy 83 = .ok (.iconst 1, 1) := by decide +kernel
theorem dX5_goesBy_84 : decode cX5_goesBy 84 = .ok (.isub, 1) := by decide +kernel
theorem dX5_goesBy_85 : decode cX5_goesBy 85 = .ok (.istore 5, 2) := by decide +kernel
theorem dX5_goesBy_87 : decode cX5_goesBy 87 = .ok (.goto 3, 3) := by decide +kernel
theorem dX5_goesBy_90 : decode cX5_goesBy 90 = .ok (.iload_n 3, 1) := by decide +kernel
theorem dX5_goesBy_91 : decode cX5_goesBy 91 = .ok (.iconst 5, 1) := by decide +kernel
theorem dX5_goesBy_92 : decode cX5_goesBy 92 = .ok (.if_icmp .lt 16, 3) := by decide +kernel
theorem dX5_goesBy_95 : decode cX5_goesBy 95 = .ok (.iload 5, 2) := by decide +kernel
theorem dX5_goesBy_97 : decode cX5_goesBy 97 = .ok (.iconst 1, 1) := by decide +kernel
theorem dX5_goesBy_98 : decode cX5_goesBy 98 = .ok (.isub, 1) := by decide +kernel
theorem dX5_goesBy_99 : decode cX5_goesBy 99 = .ok (.iconst 1, 1) := by decide +kernel
theorem dX5_goesBy_100 : decode cX5_goesBy 100 = .ok (.iload 5, 2) := by decide +kernel
theorem dX5_goesBy_102 : decode cX5_goesBy 102 = .ok (.invokestatic 49, 3) := by decide +kernel
theorem dX5_goesBy_105 : decode cX5_goesBy 105 = .ok (.goto 5, 3) := by decide +kernel
theorem dX5_goesBy_108 : decode cX5_goesBy 108 = .ok (.iload 5, 2) := by decide +kernel
theorem dX5_goesBy_110 : decode cX5_goesBy 110 = .ok (.ireturn, 1) := by decide +kernel
set_option maxRecDepth 20000 in
theorem ggX5_holdsFor_X5_it : GoodIn wsX5_holdsFor wsX5_it := goodIn_r _ [5, 6, 7, 8, 9, 10, 11, 12, 13, 14, 15, 16, 17, 18, 19, 20, 21] (by decide +kernel) (by decide +kernel)
set_option maxRecDepth 20000 in
theorem gX5_holdsFor_X5_it : GoodIn wsX5_holdsFor (wsV RX5 45 RX5 yX5_it wsX5_it) := goodIn_app (goodIn_of _ (by decide +kernel)) ggX5_holdsFor_X5_it
theorem dX5_holdsFor_0 : decode cX5_holdsFor 0 = .ok (.aload_n 0, 1) := by decide +kernel
theorem dX5_holdsFor_1 : decode cX5_holdsFor 1 = .ok (.iload_n 2, 1) := by decide +kernel
theorem dX5_holdsFor_2 : decode cX5_holdsFor 2 = .ok (.iconst 3, 1) := by decide +kernel
theorem dX5_holdsFor_3 : decode cX5_holdsFor 3 = .ok (.invokevirtual 45, 3) := by decide +kernel
theorem dX5_holdsFor_6 : decode cX5_holdsFor 6 = .ok (.istore_n 3, 1) := by decide +kernel
theorem dX5_holdsFor_7 : decode cX5_holdsFor 7 = .ok (.iload_n 3, 1) := by decide +kernel
theorem dX5_holdsFor_8 : decode cX5_holdsFor 8 = .ok (.bipush 12, 2) := by decide +kernel
theorem dX5_holdsFor_10 : decode cX5_holdsFor 10 = .ok (.if_icmp .lt 7, 3) := by decide +kernel
theorem dX5_holdsFor_13 : decode cX5_holdsFor 13 = .ok (.iconst 0, 1) := by decide +kernel
theorem dX5_holdsFor_14 : decode cX5_holdsFor 14 = .ok (.goto 8, 3) := by decide +kernel
theorem dX5_holdsFor_17 : decode cX5_holdsFor 17 = .ok (.iload_n 3, 1) := by decide +kernel
theorem dX5_holdsFor_18 : decode cX5_holdsFor 18 = .ok (.iconst 4, 1) := by decide +kernel
theorem dX5_holdsFor_19 : decode cX5_holdsFor 19 = .ok (.idiv, 1) := by decide +kernel
theorem dX5_holdsFor_20 : decode cX5_holdsFor 20 = .ok (.iconst 1, 1) := by decide +kernel
theorem dX5_holdsFor_21 : decode cX5_holdsFor 21 = .ok (.iadd, 1) := by decide +kernel
theorem dX5_holdsFor_22 : decode cX5_holdsFor 22 = .ok (.istore 4, 2) := by decide +kernel
theorem dX5_holdsFor_24 : decode cX5_holdsFor 24 = .ok (.iload 4, 2) := by decide +kernel
theorem dX5_holdsFor_26 : decode cX5_holdsFor 26 = .ok (.aload_n 0, 1) := by decide +kernel
theorem dX5_holdsFor_27 : decode cX5_holdsFor 27 = .ok (.iload_n 2, 1) := by decide +kernel
theorem dX5_holdsFor_28 : decode cX5_holdsFor 28 = .ok (.iconst 2, 1) := by decide +kernel
theorem dX5_holdsFor_29 : decode cX5_holdsFor 29 = .ok (.invokevirtual 45, 3) := by decide +kernel
theorem dX5_holdsFor_32 : decode cX5_holdsFor 32 = .ok (.iadd, 1) := by decide +kernel
theorem dX5_holdsFor_33 : decode cX5_holdsFor 33 = .ok (.istore 5, 2) := by decide +kernel
theorem dX5_holdsFor_35 : decode cX5_holdsFor 35 = .ok (.aload_n 0, 1) := by decide +kernel
theorem dX5_holdsFor_36 : decode cX5_holdsFor 36 = .ok (.iload_n 1, 1) := by decide +kernel
theorem dX5_holdsFor_37 : decode cX5_holdsFor 37 = .ok (.iconst 0, 1) := by decide +kernel
theorem dX5_holdsFor_38 : decode cX5_holdsFor 38 = .ok (.invokevirtual 45, 3) := by decide +kernel
theorem dX5_holdsFor_41 : decode cX5_holdsFor 41 = .ok (.tableswitch 75 1 5 #[35, 51, 54, 57, 59], 35) := by decide +kernel
theorem dX5_holdsFor_76 : decode cX5_holdsFor 76 = .ok (.aload_n 0, 1) := by decide +kernel
theorem dX5_holdsFor_77 : decode cX5_holdsFor 77 = .ok (.iload_n 2, 1) := by decide +kernel
theorem dX5_holdsFor_78 : decode cX5_holdsFor 78 = .ok (.iconst 2, 1) := by decide +kernel
theorem dX5_holdsFor_79 : decode cX5_holdsFor 79 = .ok (.invokevirtual 45, 3) := by decide +kernel
theorem dX5_holdsFor_82 : decode cX5_holdsFor 82 = .ok (.ifCond .ne 7, 3) := by decide +kernel
theorem dX5_holdsFor_85 : decode cX5_holdsFor 85 = .ok (.iconst 0, 1) := by decide +kernel
theorem dX5_holdsFor_86 : decode cX5_holdsFor 86 = .ok (.goto 5, 3) := by decide +kernel
theorem dX5_holdsFor_89 : decode cX5_holdsFor 89 = .ok (.iload 4, 2) := by decide +kernel
theorem dX5_holdsFor_91 : decode cX5_holdsFor 91 = .ok (.ireturn, 1) := by decide +kernel
theorem dX5_holdsFor_92 : decode cX5_holdsFor 92 = .ok (.iload 5, 2) := by decide +kernel
theorem dX5_holdsFor_94 : decode cX5_holdsFor 94 = .ok (.ireturn, 1) := by decide +kernel
theorem dX5_holdsFor_95 : decode cX5_holdsFor 95 = .ok (.bipush 9, 2) := by decide +kernel
theorem dX5_holdsFor_97 : decode cX5_holdsFor 97 = .ok (.ireturn, 1) := by decide +kernel
theorem dX5_holdsFor_98 : decode cX5_holdsFor 98 = .ok (.iconst 0, 1) := by decide +kernel
theorem dX5_holdsFor_99 : decode cX5_holdsFor 99 = .ok (.ireturn, 1) := by decide +kernel
theorem dX5_holdsFor_100 : decode cX5_holdsFor 100 = .ok (.aload_n 0, 1) := by decide +kernel
theorem dX5_holdsFor_101 : decode cX5_holdsFor 101 = .ok (.iload_n 2, 1) := by decide +kernel
theorem dX5_holdsFor_102 : decode cX5_holdsFor 102 = .ok (.iconst 1, 1) := by decide +kernel
theorem dX5_holdsFor_103 : decode cX5_holdsFor 103 = .ok (.invokevirtual 45, 3) := by decide +kernel
theorem dX5_holdsFor_106 : decode cX5_holdsFor 106 = .ok (.ifCond .ne 7, 3) := by decide +kernel
theorem dX5_holdsFor_109 : decode cX5_holdsFor 109 = .ok (.iconst 0, 1) := by decide +kernel
theorem dX5_holdsFor_110 : decode cX5_holdsFor 110 = .ok (.goto 5, 3) := by decide +kernel
theorem dX5_holdsFor_113 : decode cX5_holdsFor 113 = .ok (.iload 5, 2) := by decide +kernel
theorem dX5_holdsFor_115 : decode cX5_holdsFor 115 = .ok (.ireturn, 1) := by decide +kernel
theorem dX5_holdsFor_116 : decode cX5_holdsFor 116 = .ok (.iload 4, 2) := by decide +kernel
theorem dX5_holdsFor_118 : decode cX5_holdsFor 118 = .ok (.ireturn, 1) := by decide +kernel
set_option maxRecDepth 20000 in
theorem ggX5_doesAsk_X5_it : GoodIn wsX5_doesAsk wsX5_it := goodIn_r _ [6, 1, 7, 8, 9, 10, 11, 12, 13, 14, 15, 16, 17, 18, 19, 20, 21] (by decide +kernel) (by decide +kernel)
set_option maxRecDepth 20000 in
theorem gX5_doesAsk_X5_it : GoodIn wsX5_doesAsk (wsV RX5 45 RX5 yX5_it wsX5_it) := goodIn_app (goodIn_of _ (by decide +kernel)) ggX5_doesAsk_X5_it
theorem dX5_doesAsk_0 : decode cX5_doesAsk 0 = .ok (.aload_n 0, 1) := by decide +kernel
theorem dX5_doesAsk_1 : decode cX5_doesAsk 1 = .ok (.getfield 9, 3) := by decide +kernel
theorem dX5_doesAsk_4 : decode cX5_doesAsk 4 = .ok (.iconst 1, 1) := by decide +kernel
theorem dX5_doesAsk_5 : decode cX5_doesAsk 5 = .ok (.iaload, 1) := by decide +kernel
theorem dX5_doesAsk_6 : decode cX5_doesAsk 6 = .ok (.istore_n 3, 1) := by decide +kernel
theorem dX5_doesAsk_7 : decode cX5_doesAsk 7 = .ok (.aload_n 0, 1) := by decide +kernel
theorem dX5_doesAsk_8 : decode cX5_doesAsk 8 = .ok (.iload_n 1, 1) := by decide +kernel
theorem dX5_doesAsk_9 : decode cX5_doesAsk 9 = .ok (.iconst 0, 1) := by decide +kernel
theorem dX5_doesAsk_10 : decode cX5_doesAsk 10 = .ok (.invokevirtual 45, 3) := by decide +kernel
theorem dX5_doesAsk_13 : decode cX5_doesAsk 13 = .ok (.tableswitch 73 1 5 #[35, 47, 59, 59, 61], 35) := by decide +kernel
theorem dX5_doesAsk_48 : decode cX5_doesAsk 48 = .ok (.iload_n 3, 1) := by decide +kernel
theorem dX5_doesAsk_49 : decode cX5_doesAsk 49 = .ok (.bipush 20, 2) := by decide +kernel
theorem dX5_doesAsk_51 : decode cX5_doesAsk 51 = .ok (.if_icmp .lt 7, 3) := by decide +kernel
theorem dX5_doesAsk_54 : decode cX5_doesAsk 54 = .ok (.iconst 1, 1) := by decide +kernel
theorem dX5_doesAsk_55 : decode cX5_doesAsk 55 = .ok (.goto 4, 3) := by decide +kernel
theorem dX5_doesAsk_58 : decode cX5_doesAsk 58 = .ok (.iconst 0, 1) := by decide +kernel
theorem dX5_doesAsk_59 : decode cX5_doesAsk 59 = .ok (.ireturn, 1) := by decide +kernel
theorem dX5_doesAsk_60 : decode cX5_doesAsk 60 = .ok (.iload_n 3, 1) := by decide +kernel
theorem dX5_doesAsk_61 : decode cX5_doesAsk 61 = .ok (.bipush 90, 2) := by decide +kernel
theorem dX5_doesAsk_63 : decode cX5_doesAsk 63 = .ok (.if_icmp .lt 7, 3) := by decide +kernel
theorem dX5_doesAsk_66 : decode cX5_doesAsk 66 = .ok (.iconst 1, 1) := by decide +kernel
theorem dX5_doesAsk_67 : decode cX5_doesAsk 67 = .ok (.goto 4, 3) := by decide +kernel
theorem dX5_doesAsk_70 : decode cX5_doesAsk 70 = .ok (.iconst 0, 1) := by decide +kernel
theorem dX5_doesAsk_71 : decode cX5_doesAsk 71 = .ok (.ireturn, 1) := by decide +kernel
theorem dX5_doesAsk_72 : decode cX5_doesAsk 72 = .ok (.iconst 0, 1) := by decide +kernel
theorem dX5_doesAsk_73 : decode cX5_doesAsk 73 = .ok (.ireturn, 1) := by decide +kernel
theorem dX5_doesAsk_74 : decode cX5_doesAsk 74 = .ok (.iload_n 3, 1) := by decide +kernel
theorem dX5_doesAsk_75 : decode cX5_doesAsk 75 = .ok (.bipush 10, 2) := by decide +kernel
theorem dX5_doesAsk_77 : decode cX5_doesAsk 77 = .ok (.if_icmp .lt 7, 3) := by decide +kernel
theorem dX5_doesAsk_80 : decode cX5_doesAsk 80 = .ok (.iconst 1, 1) := by decide +kernel
theorem dX5_doesAsk_81 : decode cX5_doesAsk 81 = .ok (.goto 4, 3) := by decide +kernel
theorem dX5_doesAsk_84 : decode cX5_doesAsk 84 = .ok (.iconst 0, 1) := by decide +kernel
theorem dX5_doesAsk_85 : decode cX5_doesAsk 85 = .ok (.ireturn, 1) := by decide +kernel
theorem dX5_doesAsk_86 : decode cX5_doesAsk 86 = .ok (.iload_n 3, 1) := by decide +kernel
theorem dX5_doesAsk_87 : decode cX5_doesAsk 87 = .ok (.bipush 50, 2) := by decide +kernel
theorem dX5_doesAsk_89 : decode cX5_doesAsk 89 = .ok (.if_icmp .lt 16, 3) := by decide +kernel
theorem dX5_doesAsk_92 : decode cX5_doesAsk 92 = .ok (.aload_n 0, 1) := by decide +kernel
theorem dX5_doesAsk_93 : decode cX5_doesAsk 93 = .ok (.iload_n 2, 1) := by decide +kernel
theorem dX5_doesAsk_94 : decode cX5_doesAsk 94 = .ok (.iconst 2, 1) := by decide +kernel
theorem dX5_doesAsk_95 : decode cX5_doesAsk 95 = .ok (.invokevirtual 45, 3) := by decide +kernel
theorem dX5_doesAsk_98 : decode cX5_doesAsk 98 = .ok (.ifCond .ne 7, 3) := by decide +kernel
theorem dX5_doesAsk_101 : decode cX5_doesAsk 101 = .ok (.iconst 1, 1) := by decide +kernel
theorem dX5_doesAsk_102 : decode cX5_doesAsk 102 = .ok (.goto 4, 3) := by decide +kernel
theorem dX5_doesAsk_105 : decode cX5_doesAsk 105 = .ok (.iconst 0, 1) := by decide +kernel
theorem dX5_doesAsk_106 : decode cX5_doesAsk 106 = .ok (.ireturn, 1) := by decide +kernel
set_option maxRecDepth 20000 in
theorem ggX5_door_X5_in : GoodIn wsX5_door wsX5_in := goodIn_r _ [5] (by decide +kernel) (by decide +kernel)
set_option maxRecDepth 20000 in
theorem gX5_door_X5_in : GoodIn wsX5_door (va_wsS RX5 41 yX5_in wsX5_in) := goodIn_app (goodIn_of _ (by decide +kernel)) ggX5_door_X5_in
set_option maxRecDepth 20000 in
theorem ggX5_door_X5_becomes : GoodIn wsX5_door wsX5_becomes := goodIn_r _ [9, 10, 16, 17, 18, 19, 20, 21, 22, 23, 24, 25, 26, 27, 28, 29, 30] (by decide +kernel) (by decide +kernel)
set_option maxRecDepth 20000 in
theorem gX5_door_X5_becomes : GoodIn wsX5_door (wsV RX5 53 RX5 yX5_becomes wsX5_becomes) := goodIn_app (goodIn_of _ (by decide +kernel)) ggX5_door_X5_becomes
set_option maxRecDepth 20000 in
theorem ggX5_door_X5_finds : GoodIn wsX5_door wsX5_finds := goodIn_r _ [14, 15, 1, 16, 17, 18, 19, 20, 21, 22, 23, 24, 25, 26, 27, 28, 29, 30] (by decide +kernel) (by decide +kernel)
set_option maxRecDepth 20000 in
theorem gX5_door_X5_finds : GoodIn wsX5_door (wsV RX5 37 RX5 yX5_finds wsX5_finds) := goodIn_app (goodIn_of _ (by decide +kernel)) ggX5_door_X5_finds
theorem dX5_door_0 : decode cX5_door 0 = .ok (.iload_n 1, 1) := by decide +kernel
theorem dX5_door_1 : decode cX5_door 1 = .ok (.i2l, 1) := by decide +kernel
theorem dX5_door_2 : decode cX5_door 2 = .ok (.iconst 0, 1) := by decide +kernel
theorem dX5_door_3 : decode cX5_door 3 = .ok (.iconst 1, 1) := by decide +kernel
theorem dX5_door_4 : decode cX5_door 4 = .ok (.invokestatic 41, 3) := by decide +kernel
theorem dX5_door_7 : decode cX5_door 7 = .ok (.ifCond .eq 34, 3) := by decide +kernel
theorem dX5_door_10 : decode cX5_door 10 = .ok (.iload_n 2, 1) := by decide +kernel
theorem dX5_door_11 : decode cX5_door 11 = .ok (.i2l, 1) := by decide +kernel
theorem dX5_door_12 : decode cX5_door 12 = .ok (.iconst 0, 1) := by decide +kernel
theorem dX5_door_13 : decode cX5_door 13 = .ok (.iload_n 1, 1) := by decide +kernel
theorem dX5_door_14 : decode cX5_door 14 = .ok (.ifCond .ne 8, 3) := by decide +kernel
theorem dX5_door_17 : decode cX5_door 17 = .ok (.bipush 99, 2) := by decide +kernel
theorem dX5_door_19 : decode cX5_door 19 = .ok (.goto 5, 3) := by decide +kernel
theorem dX5_door_22 : decode cX5_door 22 = .ok (.bipush 60, 2) := by decide +kernel
theorem dX5_door_24 : decode cX5_door 24 = .ok (.invokestatic 41, 3) := by decide +kernel
theorem dX5_door_27 : decode cX5_door 27 = .ok (.ifCond .eq 14, 3) := by decide +kernel
theorem dX5_door_30 : decode cX5_door 30 = .ok (.aload_n 0, 1) := by decide +kernel
theorem dX5_door_31 : decode cX5_door 31 = .ok (.iconst 1, 1) := by decide +kernel
theorem dX5_door_32 : decode cX5_door 32 = .ok (.iload_n 1, 1) := by decide +kernel
theorem dX5_door_33 : decode cX5_door 33 = .ok (.iadd, 1) := by decide +kernel
theorem dX5_door_34 : decode cX5_door 34 = .ok (.iload_n 2, 1) := by decide +kernel
theorem dX5_door_35 : decode cX5_door 35 = .ok (.invokevirtual 53, 3) := by decide +kernel
theorem dX5_door_38 : decode cX5_door 38 = .ok (.goto 9, 3) := by decide +kernel
theorem dX5_door_41 : decode cX5_door 41 = .ok (.aload_n 0, 1) := by decide +kernel
theorem dX5_door_42 : decode cX5_door 42 = .ok (.ldc 35, 2) := by decide +kernel
theorem dX5_door_44 : decode cX5_door 44 = .ok (.invokevirtual 37, 3) := by decide +kernel
theorem dX5_door_47 : decode cX5_door 47 = .ok (.ireturn, 1) := by decide +kernel
set_option maxRecDepth 20000 in
theorem ggX5_inside_X5_it : GoodIn wsX5_inside wsX5_it := goodIn_r _ [6, 1, 7, 8, 9, 10, 11, 12, 13, 14, 15, 16, 17, 18, 19, 20, 21] (by decide +kernel) (by decide +kernel)
set_option maxRecDepth 20000 in
theorem gX5_inside_X5_it : GoodIn wsX5_inside (wsV RX5 45 RX5 yX5_it wsX5_it) := goodIn_app (goodIn_of _ (by decide +kernel)) ggX5_inside_X5_it
theorem dX5_inside_0 : decode cX5_inside 0 = .ok (.iconst 0, 1) := by decide +kernel
theorem dX5_inside_1 : decode cX5_inside 1 = .ok (.istore_n 1, 1) := by decide +kernel
theorem dX5_inside_2 : decode cX5_inside 2 = .ok (.iconst 0, 1) := by decide +kernel
theorem dX5_inside_3 : decode cX5_inside 3 = .ok (.istore_n 2, 1) := by decide +kernel
theorem dX5_inside_4 : decode cX5_inside 4 = .ok (.iload_n 2, 1) := by decide +kernel
theorem dX5_inside_5 : decode cX5_inside 5 = .ok (.aload_n 0, 1) := by decide +kernel
theorem dX5_inside_6 : decode cX5_inside 6 = .ok (.getfield 9, 3) := by decide +kernel
theorem dX5_inside_9 : decode cX5_inside 9 = .ok (.iconst 4, 1) := by decide +kernel
theorem dX5_inside_10 : decode cX5_inside 10 = .ok (.iaload, 1) := by decide +kernel
theorem dX5_inside_11 : decode cX5_inside 11 = .ok (.if_icmp .ge 20, 3) := by decide +kernel
theorem dX5_inside_14 : decode cX5_inside 14 = .ok (.iload_n 1, 1) := by decide +kernel
theorem dX5_inside_15 : decode cX5_inside 15 = .ok (.aload_n 0, 1) := by decide +kernel
theorem dX5_inside_16 : decode cX5_inside 16 = .ok (.iload_n 2, 1) := by decide +kernel
theorem dX5_inside_17 : decode cX5_inside 17 = .ok (.iconst 4, 1) := by decide +kernel
theorem dX5_inside_18 : decode cX5_inside 18 = .ok (.invokevirtual 45, 3) := by decide +kernel
theorem dX5_inside_21 : decode cX5_inside 21 = .ok (.iload_n 2, 1) := by decide +kernel
theorem dX5_inside_22 : decode cX5_inside 22 = .ok (.ishl, 1) := by decide +kernel
theorem dX5_inside_23 : decode cX5_inside 23 = .ok (.ior, 1) := by decide +kernel
theorem dX5_inside_24 : decode cX5_inside 24 = .ok (.istore_n 1, 1) := by decide +kernel
theorem dX5_inside_25 : decode cX5_inside 25 = .ok (.iinc 2 1, 3) := by decide +kernel
theorem dX5_inside_28 : decode cX5_inside 28 = .ok (.goto (-24), 3) := by decide +kernel
theorem dX5_inside_31 : decode cX5_inside 31 = .ok (.iload_n 1, 1) := by decide +kernel
theorem dX5_inside_32 : decode cX5_inside 32 = .ok (.ireturn, 1) := by decide +kernel
set_option maxRecDepth 20000 in
theorem ggX5_looseOnes_X5_it : GoodIn wsX5_looseOnes wsX5_it := goodIn_r _ [6, 1, 7, 8, 9, 10, 11, 12, 13, 14, 15, 16, 17, 18, 19, 20, 21] (by decide +kernel) (by decide +kernel)
set_option maxRecDepth 20000 in
theorem gX5_looseOnes_X5_it : GoodIn wsX5_looseOnes (wsV RX5 45 RX5 yX5_it wsX5_it) := goodIn_app (goodIn_of _ (by decide +kernel)) ggX5_looseOnes_X5_it
theorem dX5_looseOnes_0 : decode cX5_looseOnes 0 = .ok (.iconst 0, 1) := by decide +kernel
theorem dX5_looseOnes_1 : decode cX5_looseOnes 1 = .ok (.istore_n 1, 1) := by decide +kernel
theorem dX5_looseOnes_2 : decode cX5_looseOnes 2 = .ok (.iconst 0, 1) := by decide +kernel
theorem dX5_looseOnes_3 : decode cX5_looseOnes 3 = .ok (.istore_n 2, 1) := by decide +kernel
theorem dX5_looseOnes_4 : decode cX5_looseOnes 4 = .ok (.iload_n 2, 1) := by decide +kernel
theorem dX5_looseOnes_5 : decode cX5_looseOnes 5 = .ok (.aload_n 0, 1) := by decide +kernel
theorem dX5_looseOnes_6 : decode cX5_looseOnes 6 = .ok (.getfield 9, 3) := by decide +kernel
theorem dX5_looseOnes_9 : decode cX5_looseOnes 9 = .ok (.iconst 4, 1) := by decide +kernel
theorem dX5_looseOnes_10 : decode cX5_looseOnes 10 = .ok (.iaload, 1) := by decide +kernel
theorem dX5_looseOnes_11 : decode cX5_looseOnes 11 = .ok (.if_icmp .ge 38, 3) := by decide +kernel
theorem dX5_looseOnes_14 : decode cX5_looseOnes 14 = .ok (.iload_n 1, 1) := by decide +kernel
theorem dX5_looseOnes_15 : decode cX5_looseOnes 15 = .ok (.aload_n 0, 1) := by decide +kernel
theorem dX5_looseOnes_16 : decode cX5_looseOnes 16 = .ok (.iload_n 2, 1) := by decide +kernel
theorem dX5_looseOnes_17 : decode cX5_looseOnes 17 = .ok (.iconst 4, 1) := by decide +kernel
theorem dX5_looseOnes_18 : decode cX5_looseOnes 18 = .ok (.invokevirtual 45, 3) := by decide +kernel
theorem dX5_looseOnes_21 : decode cX5_looseOnes 21 = .ok (.iconst 1, 1) := by decide +kernel
theorem dX5_looseOnes_22 : decode cX5_looseOnes 22 = .ok (.if_icmp .ne 18, 3) := by decide +kernel
theorem dX5_looseOnes_25 : decode cX5_looseOnes 25 = .ok (.aload_n 0, 1) := by decide +kernel
theorem dX5_looseOnes_26 : decode cX5_looseOnes 26 = .ok (.iload_n 2, 1) := by decide +kernel
theorem dX5_looseOnes_27 : decode cX5_looseOnes 27 = .ok (.iconst 1, 1) := by decide +kernel
theorem dX5_looseOnes_28 : decode cX5_looseOnes 28 = .ok (.invokevirtual 45, 3) := by decide +kernel
theorem dX5_looseOnes_31 : decode cX5_looseOnes 31 = .ok (.ifCond .ne 9, 3) := by decide +kernel
theorem dX5_looseOnes_34 : decode cX5_looseOnes 34 = .ok (.iconst 1, 1) := by decide +kernel
theorem dX5_looseOnes_35 : decode cX5_looseOnes 35 = .ok (.iload_n 2, 1) := by decide +kernel
theorem dX5_looseOnes_36 : decode cX5_looseOnes 36 = .ok (.ishl, 1) := by decide +kernel
theorem dX5_looseOnes_37 : decode cX5_looseOnes 37 = .ok (.goto 4, 3) := by decide +kernel
theorem dX5_looseOnes_40 : decode cX5_looseOnes 40 = .ok (.iconst 0, 1) := by decide +kernel
theorem dX5_looseOnes_41 : decode cX5_looseOnes 41 = .ok (.ior, 1) := by decide +kernel
theorem dX5_looseOnes_42 : decode cX5_looseOnes 42 = .ok (.istore_n 1, 1) := by decide +kernel
theorem dX5_looseOnes_43 : decode cX5_looseOnes 43 = .ok (.iinc 2 1, 3) := by decide +kernel
theorem dX5_looseOnes_46 : decode cX5_looseOnes 46 = .ok (.goto (-42), 3) := by decide +kernel
theorem dX5_looseOnes_49 : decode cX5_looseOnes 49 = .ok (.iload_n 1, 1) := by decide +kernel
theorem dX5_looseOnes_50 : decode cX5_looseOnes 50 = .ok (.ireturn, 1) := by decide +kernel
set_option maxRecDepth 20000 in
theorem ggX5_sums_X5_it : GoodIn wsX5_sums wsX5_it := goodIn_r _ [6, 1, 7, 8, 9, 10, 11, 12, 13, 14, 15, 16, 17, 18, 19, 20, 21] (by decide +kernel) (by decide +kernel)
set_option maxRecDepth 20000 in
theorem gX5_sums_X5_it : GoodIn wsX5_sums (wsV RX5 45 RX5 yX5_it wsX5_it) := goodIn_app (goodIn_of _ (by decide +kernel)) ggX5_sums_X5_it
theorem dX5_sums_0 : decode cX5_sums 0 = .ok (.iconst 0, 1) := by decide +kernel
theorem dX5_sums_1 : decode cX5_sums 1 = .ok (.istore_n 2, 1) := by decide +kernel
theorem dX5_sums_2 : decode cX5_sums 2 = .ok (.iconst 0, 1) := by decide +kernel
theorem dX5_sums_3 : decode cX5_sums 3 = .ok (.istore_n 3, 1) := by decide +kernel
theorem dX5_sums_4 : decode cX5_sums 4 = .ok (.iload_n 3, 1) := by decide +kernel
theorem dX5_sums_5 : decode cX5_sums 5 = .ok (.aload_n 0, 1) := by decide +kernel
theorem dX5_sums_6 : decode cX5_sums 6 = .ok (.getfield 9, 3) := by decide +kernel
theorem dX5_sums_9 : decode cX5_sums 9 = .ok (.iconst 4, 1) := by decide +kernel
theorem dX5_sums_10 : decode cX5_sums 10 = .ok (.iaload, 1) := by decide +kernel
theorem dX5_sums_11 : decode cX5_sums 11 = .ok (.if_icmp .ge 18, 3) := by decide +kernel
theorem dX5_sums_14 : decode cX5_sums 14 = .ok (.iload_n 2, 1) := by decide +kernel
theorem dX5_sums_15 : decode cX5_sums 15 = .ok (.aload_n 0, 1) := by decide +kernel
theorem dX5_sums_16 : decode cX5_sums 16 = .ok (.iload_n 3, 1) := by decide +kernel
theorem dX5_sums_17 : decode cX5_sums 17 = .ok (.iload_n 1, 1) := by decide +kernel
theorem dX5_sums_18 : decode cX5_sums 18 = .ok (.invokevirtual 45, 3) := by decide +kernel
theorem dX5_sums_21 : decode cX5_sums 21 = .ok (.iadd, 1) := by decide +kernel
theorem dX5_sums_22 : decode cX5_sums 22 = .ok (.istore_n 2, 1) := by decide +kernel
theorem dX5_sums_23 : decode cX5_sums 23 = .ok (.iinc 3 1, 3) := by decide +kernel
theorem dX5_sums_26 : decode cX5_sums 26 = .ok (.goto (-22), 3) := by decide +kernel
theorem dX5_sums_29 : decode cX5_sums 29 = .ok (.iload_n 2, 1) := by decide +kernel
theorem dX5_sums_30 : decode cX5_sums 30 = .ok (.ireturn, 1) := by decide +kernel
set_option maxRecDepth 20000 in
theorem ggX5_now_X5_inside : GoodIn wsX5_now wsX5_inside := goodIn_r _ [7, 1, 8, 9, 10, 6, 11, 25, 26, 27, 28, 29, 30, 31, 32, 33, 34, 35, 36, 37, 38, 39] (by decide +kernel) (by decide +kernel)
set_option maxRecDepth 20000 in
theorem gX5_now_X5_inside : GoodIn wsX5_now (wsV RX5 56 RX5 yX5_inside wsX5_inside) := goodIn_app (goodIn_of _ (by decide +kernel)) ggX5_now_X5_inside
set_option maxRecDepth 20000 in
theorem ggX5_now_X5_looseOnes : GoodIn wsX5_now wsX5_looseOnes := goodIn_r _ [15, 1, 8, 9, 10, 6, 11, 25, 26, 27, 28, 29, 30, 31, 32, 33, 34, 35, 36, 37, 38, 39] (by decide +kernel) (by decide +kernel)
set_option maxRecDepth 20000 in
theorem gX5_now_X5_looseOnes : GoodIn wsX5_now (wsV RX5 60 RX5 yX5_looseOnes wsX5_looseOnes) := goodIn_app (goodIn_of _ (by decide +kernel)) ggX5_now_X5_looseOnes
set_option maxRecDepth 20000 in
theorem ggX5_now_X5_sums : GoodIn wsX5_now wsX5_sums := goodIn_r _ [19, 1, 8, 9, 10, 6, 11, 25, 26, 27, 28, 29, 30, 31, 32, 33, 34, 35, 36, 37, 38, 39] (by decide +kernel) (by decide +kernel)
set_option maxRecDepth 20000 in
theorem gX5_now_X5_sums : GoodIn wsX5_now (wsV RX5 63 RX5 yX5_sums wsX5_sums) := goodIn_app (goodIn_of _ (by decide +kernel)) ggX5_now_X5_sums
set_option maxRecDepth 20000 in
theorem ggX5_now_X5_finds : GoodIn wsX5_now wsX5_finds := goodIn_r _ [23, 24, 2, 25, 26, 27, 28, 29, 30, 31, 32, 33, 34, 35, 36, 37, 38, 39] (by decide +kernel) (by decide +kernel)
set_option maxRecDepth 20000 in
theorem gX5_now_X5_finds : GoodIn wsX5_now (wsV RX5 37 RX5 yX5_finds wsX5_finds) := goodIn_app (goodIn_of _ (by decide +kernel)) ggX5_now_X5_finds
theorem dX5_now_0 : decode cX5_now 0 = .ok (.iload_n 1, 1) := by decide +kernel
theorem dX5_now_1 : decode cX5_now 1 = .ok (.tableswitch 68 0 6 #[43, 43, 43, 43, 52, 57, 62], 43) := by decide +kernel
theorem dX5_now_44 : decode cX5_now 44 = .ok (.aload_n 0, 1) := by decide +kernel
theorem dX5_now_45 : decode cX5_now 45 = .ok (.getfield 9, 3) := by decide +kernel
theorem dX5_now_48 : decode cX5_now 48 = .ok (.iconst 0, 1) := by decide +kernel
theorem dX5_now_49 : decode cX5_now 49 = .ok (.iload_n 1, 1) := by decide +kernel
theorem dX5_now_50 : decode cX5_now 50 = .ok (.iadd, 1) := by decide +kernel
theorem dX5_now_51 : decode cX5_now 51 = .ok (.iaload, 1) := by decide +kernel
theorem dX5_now_52 : decode cX5_now 52 = .ok (.ireturn, 1) := by decide +kernel
theorem dX5_now_53 : decode cX5_now 53 = .ok (.aload_n 0, 1) := by decide +kernel
theorem dX5_now_54 : decode cX5_now 54 = .ok (.invokevirtual 56, 3) := by decide +kernel
theorem dX5_now_57 : decode cX5_now 57 = .ok (.ireturn, 1) := by decide +kernel
theorem dX5_now_58 : decode cX5_now 58 = .ok (.aload_n 0, 1) := by decide +kernel
theorem dX5_now_59 : decode cX5_now 59 = .ok (.invokevirtual 60, 3) := by decide +kernel
theorem dX5_now_62 : decode cX5_now 62 = .ok (.ireturn, 1) := by decide +kernel
theorem dX5_now_63 : decode cX5_now 63 = .ok (.aload_n 0, 1) := by decide +kernel
theorem dX5_now_64 : decode cX5_now 64 = .ok (.iconst 5, 1) := by decide +kernel
theorem dX5_now_65 : decode cX5_now 65 = .ok (.invokevirtual 63, 3) := by decide +kernel
theorem dX5_now_68 : decode cX5_now 68 = .ok (.ireturn, 1) := by decide +kernel
theorem dX5_now_69 : decode cX5_now 69 = .ok (.aload_n 0, 1) := by decide +kernel
theorem dX5_now_70 : decode cX5_now 70 = .ok (.ldc 35, 2) := by decide +kernel
theorem dX5_now_72 : decode cX5_now 72 = .ok (.invokevirtual 37, 3) := by decide +kernel
theorem dX5_now_75 : decode cX5_now 75 = .ok (.ireturn, 1) := by decide +kernel
set_option maxRecDepth 20000 in
theorem ggX5_comesAs_X5_put : GoodIn wsX5_comesAs wsX5_put := goodIn_r _ [6, 1, 7, 8, 9, 10, 11, 12, 13, 14, 15, 16, 17, 18, 19, 20, 21] (by decide +kernel) (by decide +kernel)
set_option maxRecDepth 20000 in
theorem gX5_comesAs_X5_put : GoodIn wsX5_comesAs (wsV RX5 66 RX5 yX5_put wsX5_put) := goodIn_app (goodIn_of _ (by decide +kernel)) ggX5_comesAs_X5_put
theorem dX5_comesAs_0 : decode cX5_comesAs 0 = .ok (.aload_n 0, 1) := by decide +kernel
theorem dX5_comesAs_1 : decode cX5_comesAs 1 = .ok (.getfield 9, 3) := by decide +kernel
theorem dX5_comesAs_4 : decode cX5_comesAs 4 = .ok (.iconst 4, 1) := by decide +kernel
theorem dX5_comesAs_5 : decode cX5_comesAs 5 = .ok (.iaload, 1) := by decide +kernel
theorem dX5_comesAs_6 : decode cX5_comesAs 6 = .ok (.istore 5, 2) := by decide +kernel
theorem dX5_comesAs_8 : decode cX5_comesAs 8 = .ok (.aload_n 0, 1) := by decide +kernel
theorem dX5_comesAs_9 : decode cX5_comesAs 9 = .ok (.getfield 9, 3) := by decide +kernel
theorem dX5_comesAs_12 : decode cX5_comesAs 12 = .ok (.iconst 4, 1) := by decide +kernel
theorem dX5_comesAs_13 : decode cX5_comesAs 13 = .ok (.dup2, 1) := by decide +kernel
theorem dX5_comesAs_14 : decode cX5_comesAs 14 = .ok (.iaload, 1) := by decide +kernel
theorem dX5_comesAs_15 : decode cX5_comesAs 15 = .ok (.iconst 1, 1) := by decide +kernel
theorem dX5_comesAs_16 : decode cX5_comesAs 16 = .ok (.iadd, 1) := by decide +kernel
theorem dX5_comesAs_17 : decode cX5_comesAs 17 = .ok (.iastore, 1) := by decide +kernel
theorem dX5_comesAs_18 : decode cX5_comesAs 18 = .ok (.aload_n 0, 1) := by decide +kernel
theorem dX5_comesAs_19 : decode cX5_comesAs 19 = .ok (.iload 5, 2) := by decide +kernel
theorem dX5_comesAs_21 : decode cX5_comesAs 21 = .ok (.iconst 0, 1) := by decide +kernel
theorem dX5_comesAs_22 : decode cX5_comesAs 22 = .ok (.iload_n 1, 1) := by decide +kernel
theorem dX5_comesAs_23 : decode cX5_comesAs 23 = .ok (.invokevirtual 66, 3) := by decide +kernel
theorem dX5_comesAs_26 : decode cX5_comesAs 26 = .ok (.aload_n 0, 1) := by decide +kernel
theorem dX5_comesAs_27 : decode cX5_comesAs 27 = .ok (.iload 5, 2) := by decide +kernel
theorem dX5_comesAs_29 : decode cX5_comesAs 29 = .ok (.iconst 1, 1) := by decide +kernel
theorem dX5_comesAs_30 : decode cX5_comesAs 30 = .ok (.iload 4, 2) := by decide +kernel
theorem dX5_comesAs_32 : decode cX5_comesAs 32 = .ok (.invokevirtual 66, 3) := by decide +kernel
theorem dX5_comesAs_35 : decode cX5_comesAs 35 = .ok (.aload_n 0, 1) := by decide +kernel
theorem dX5_comesAs_36 : decode cX5_comesAs 36 = .ok (.iload 5, 2) := by decide +kernel
theorem dX5_comesAs_38 : decode cX5_comesAs 38 = .ok (.iconst 2, 1) := by decide +kernel
theorem dX5_comesAs_39 : decode cX5_comesAs 39 = .ok (.iload_n 3, 1) := by decide +kernel
theorem dX5_comesAs_40 : decode cX5_comesAs 40 = .ok (.invokevirtual 66, 3) := by decide +kernel
theorem dX5_comesAs_43 : decode cX5_comesAs 43 = .ok (.aload_n 0, 1) := by decide +kernel
theorem dX5_comesAs_44 : decode cX5_comesAs 44 = .ok (.iload 5, 2) := by decide +kernel
theorem dX5_comesAs_46 : decode cX5_comesAs 46 = .ok (.iconst 3, 1) := by decide +kernel
theorem dX5_comesAs_47 : decode cX5_comesAs 47 = .ok (.iload_n 2, 1) := by decide +kernel
theorem dX5_comesAs_48 : decode cX5_comesAs 48 = .ok (.invokevirtual 66, 3) := by decide +kernel
theorem dX5_comesAs_51 : decode cX5_comesAs 51 = .ok (.aload_n 0, 1) := by decide +kernel
theorem dX5_comesAs_52 : decode cX5_comesAs 52 = .ok (.iload 5, 2) := by decide +kernel
theorem dX5_comesAs_54 : decode cX5_comesAs 54 = .ok (.iconst 4, 1) := by decide +kernel
theorem dX5_comesAs_55 : decode cX5_comesAs 55 = .ok (.iconst 0, 1) := by decide +kernel
theorem dX5_comesAs_56 : decode cX5_comesAs 56 = .ok (.invokevirtual 66, 3) := by decide +kernel
theorem dX5_comesAs_59 : decode cX5_comesAs 59 = .ok (.aload_n 0, 1) := by decide +kernel
theorem dX5_comesAs_60 : decode cX5_comesAs 60 = .ok (.iload 5, 2) := by decide +kernel
theorem dX5_comesAs_62 : decode cX5_comesAs 62 = .ok (.iconst 5, 1) := by decide +kernel
theorem dX5_comesAs_63 : decode cX5_comesAs 63 = .ok (.iconst 0, 1) := by decide +kernel
theorem dX5_comesAs_64 : decode cX5_comesAs 64 = .ok (.invokevirtual 66, 3) := by decide +kernel
theorem dX5_comesAs_67 : decode cX5_comesAs 67 = .ok (.iload 5, 2) := by decide +kernel
theorem dX5_comesAs_69 : decode cX5_comesAs 69 = .ok (.ireturn, 1) := by decide +kernel
set_option maxRecDepth 20000 in
theorem ggX5_person_X5_in : GoodIn wsX5_person wsX5_in := goodIn_r _ [7] (by decide +kernel) (by decide +kernel)
set_option maxRecDepth 20000 in
theorem gX5_person_X5_in : GoodIn wsX5_person (va_wsS RX5 41 yX5_in wsX5_in) := goodIn_app (goodIn_of _ (by decide +kernel)) ggX5_person_X5_in
set_option maxRecDepth 20000 in
theorem ggX5_person_X5_finds : GoodIn wsX5_person wsX5_finds := goodIn_r _ [11, 12, 1, 21, 22, 23, 24, 25, 26, 27, 28, 29, 30, 31, 32, 33, 34, 35] (by decide +kernel) (by decide +kernel)
set_option maxRecDepth 20000 in
theorem gX5_person_X5_finds : GoodIn wsX5_person (wsV RX5 37 RX5 yX5_finds wsX5_finds) := goodIn_app (goodIn_of _ (by decide +kernel)) ggX5_person_X5_finds
set_option maxRecDepth 20000 in
theorem ggX5_person_X5_comesAs : GoodIn wsX5_person wsX5_comesAs := goodIn_r _ [16, 2, 17, 18, 19, 6, 20, 21, 22, 23, 24, 25, 26, 27, 28, 29, 30, 31, 32, 33, 34, 35] (by decide +kernel) (by decide +kernel)
set_option maxRecDepth 20000 in
theorem gX5_person_X5_comesAs : GoodIn wsX5_person (wsV RX5 71 RX5 yX5_comesAs wsX5_comesAs) := goodIn_app (goodIn_of _ (by decide +kernel)) ggX5_person_X5_comesAs
theorem dX5_person_0 : decode cX5_person 0 = .ok (.iload_n 1, 1) := by decide +kernel
theorem dX5_person_1 : decode cX5_person 1 = .ok (.i2l, 1) := by decide +kernel
theorem dX5_person_2 : decode cX5_person 2 = .ok (.iconst 0, 1) := by decide +kernel
theorem dX5_person_3 : decode cX5_person 3 = .ok (.iconst 5, 1) := by decide +kernel
theorem dX5_person_4 : decode cX5_person 4 = .ok (.invokestatic 41, 3) := by decide +kernel
theorem dX5_person_7 : decode cX5_person 7 = .ok (.ifCond .eq 15, 3) := by decide +kernel
theorem dX5_person_10 : decode cX5_person 10 = .ok (.iload_n 2, 1) := by decide +kernel
theorem dX5_person_11 : decode cX5_person 11 = .ok (.i2l, 1) := by decide +kernel
theorem dX5_person_12 : decode cX5_person 12 = .ok (.iconst 0, 1) := by decide +kernel
theorem dX5_person_13 : decode cX5_person 13 = .ok (.sipush 999, 3) := by decide +kernel
theorem dX5_person_16 : decode cX5_person 16 = .ok (.invokestatic 41, 3) := by decide +kernel
theorem dX5_person_19 : decode cX5_person 19 = .ok (.ifCond .ne 10, 3) := by decide +kernel
theorem dX5_person_22 : decode cX5_person 22 = .ok (.aload_n 0, 1) := by decide +kernel
theorem dX5_person_23 : decode cX5_person 23 = .ok (.ldc 35, 2) := by decide +kernel
theorem dX5_person_25 : decode cX5_person 25 = .ok (.invokevirtual 37, 3) := by decide +kernel
theorem dX5_person_28 : decode cX5_person 28 = .ok (.ireturn, 1) := by decide +kernel
theorem dX5_person_29 : decode cX5_person 29 = .ok (.aload_n 0, 1) := by decide +kernel
theorem dX5_person_30 : decode cX5_person 30 = .ok (.getfield 9, 3) := by decide +kernel
theorem dX5_person_33 : decode cX5_person 33 = .ok (.iconst 4, 1) := by decide +kernel
theorem dX5_person_34 : decode cX5_person 34 = .ok (.iaload, 1) := by decide +kernel
theorem dX5_person_35 : decode cX5_person 35 = .ok (.bipush 8, 2) := by decide +kernel
theorem dX5_person_37 : decode cX5_person 37 = .ok (.if_icmp .ne 12, 3) := by decide +kernel
theorem dX5_person_40 : decode cX5_person 40 = .ok (.aload_n 0, 1) := by decide +kernel
theorem dX5_person_41 : decode cX5_person 41 = .ok (.ldc 70, 2) := by decide +kernel
theorem dX5_person_43 : decode cX5_person 43 = .ok (.invokevirtual 37, 3) := by decide +kernel
theorem dX5_person_46 : decode cX5_person 46 = .ok (.goto 11, 3) := by decide +kernel
theorem dX5_person_49 : decode cX5_person 49 = .ok (.aload_n 0, 1) := by decide +kernel
theorem dX5_person_50 : decode cX5_person 50 = .ok (.iload_n 1, 1) := by decide +kernel
theorem dX5_person_51 : decode cX5_person 51 = .ok (.iload_n 2, 1) := by decide +kernel
theorem dX5_person_52 : decode cX5_person 52 = .ok (.iconst 0, 1) := by decide +kernel
theorem dX5_person_53 : decode cX5_person 53 = .ok (.iconst 1, 1) := by decide +kernel
theorem dX5_person_54 : decode cX5_person 54 = .ok (.invokevirtual 71, 3) := by decide +kernel
theorem dX5_person_57 : decode cX5_person 57 = .ok (.ireturn, 1) := by decide +kernel
set_option maxRecDepth 20000 in
theorem ggX5_of_X5_isPerson : GoodIn wsX5_of wsX5_isPerson := goodIn_r _ [7, 2, 8, 9, 6, 10, 27, 28, 29, 30, 31, 32, 33, 34, 35, 36, 37, 38, 39, 40, 41] (by decide +kernel) (by decide +kernel)
set_option maxRecDepth 20000 in
theorem gX5_of_X5_isPerson : GoodIn wsX5_of (wsV RX5 75 RX5 yX5_isPerson wsX5_isPerson) := goodIn_app (goodIn_of _ (by decide +kernel)) ggX5_of_X5_isPerson
set_option maxRecDepth 20000 in
theorem ggX5_of_X5_in : GoodIn wsX5_of wsX5_in := goodIn_r _ [10] (by decide +kernel) (by decide +kernel)
set_option maxRecDepth 20000 in
theorem gX5_of_X5_in : GoodIn wsX5_of (va_wsS RX5 41 yX5_in wsX5_in) := goodIn_app (goodIn_of _ (by decide +kernel)) ggX5_of_X5_in
set_option maxRecDepth 20000 in
theorem ggX5_of_X5_finds : GoodIn wsX5_of wsX5_finds := goodIn_r _ [14, 15, 1, 27, 28, 29, 30, 31, 32, 33, 34, 35, 36, 37, 38, 39, 40, 41] (by decide +kernel) (by decide +kernel)
set_option maxRecDepth 20000 in
theorem gX5_of_X5_finds : GoodIn wsX5_of (wsV RX5 37 RX5 yX5_finds wsX5_finds) := goodIn_app (goodIn_of _ (by decide +kernel)) ggX5_of_X5_finds
set_option maxRecDepth 20000 in
theorem ggX5_of_X5_it : GoodIn wsX5_of wsX5_it := goodIn_r _ [19, 2, 27, 28, 29, 30, 31, 32, 33, 34, 35, 36, 37, 38, 39, 40, 41] (by decide +kernel) (by decide +kernel)
set_option maxRecDepth 20000 in
theorem gX5_of_X5_it : GoodIn wsX5_of (wsV RX5 45 RX5 yX5_it wsX5_it) := goodIn_app (goodIn_of _ (by decide +kernel)) ggX5_of_X5_it
set_option maxRecDepth 20000 in
theorem ggX5_of_X5_goesBy : GoodIn wsX5_of wsX5_goesBy := goodIn_r _ [23, 16, 17, 18, 6, 19, 2, 24, 25, 26, 27, 28, 29, 30, 31, 32, 33, 34, 35, 36, 37, 38, 39, 40, 41] (by decide +kernel) (by decide +kernel)
set_option maxRecDepth 20000 in
theorem gX5_of_X5_goesBy : GoodIn wsX5_of (wsV RX5 79 RX5 yX5_goesBy wsX5_goesBy) := goodIn_app (goodIn_of _ (by decide +kernel)) ggX5_of_X5_goesBy
theorem dX5_of_0 : decode cX5_of 0 = .ok (.aload_n 0, 1) := by decide +kernel
theorem dX5_of_1 : decode cX5_of 1 = .ok (.iload_n 1, 1) := by decide +kernel
theorem dX5_of_2 : decode cX5_of 2 = .ok (.invokevirtual 75, 3) := by decide +kernel
theorem dX5_of_5 : decode cX5_of 5 = .ok (.ifCond .eq 14, 3) := by decide +kernel
theorem dX5_of_8 : decode cX5_of 8 = .ok (.iload_n 2, 1) := by decide +kernel
theorem dX5_of_9 : decode cX5_of 9 = .ok (.i2l, 1) := by decide +kernel
theorem dX5_of_10 : decode cX5_of 10 = .ok (.iconst 0, 1) := by decide +kernel
theorem dX5_of_11 : decode cX5_of 11 = .ok (.bipush 6, 2) := by decide +kernel
theorem dX5_of_13 : decode cX5_of 13 = .ok (.invokestatic 41, 3) := by decide +kernel
theorem dX5_of_16 : decode cX5_of 16 = .ok (.ifCond .ne 10, 3) := by decide +kernel
theorem dX5_of_19 : decode cX5_of 19 = .ok (.aload_n 0, 1) := by decide +kernel
theorem dX5_of_20 : decode cX5_of 20 = .ok (.ldc 35, 2) := by decide +kernel
theorem dX5_of_22 : decode cX5_of 22 = .ok (.invokevirtual 37, 3) := by decide +kernel
theorem dX5_of_25 : decode cX5_of 25 = .ok (.ireturn, 1) := by decide +kernel
theorem dX5_of_26 : decode cX5_of 26 = .ok (.iload_n 2, 1) := by decide +kernel
theorem dX5_of_27 : decode cX5_of 27 = .ok (.bipush 6, 2) := by decide +kernel
theorem dX5_of_29 : decode cX5_of 29 = .ok (.if_icmp .ge 12, 3) := by decide +kernel
theorem dX5_of_32 : decode cX5_of 32 = .ok (.aload_n 0, 1) := by decide +kernel
theorem dX5_of_33 : decode cX5_of 33 = .ok (.iload_n 1, 1) := by decide +kernel
theorem dX5_of_34 : decode cX5_of 34 = .ok (.iload_n 2, 1) := by decide +kernel
theorem dX5_of_35 : decode cX5_of 35 = .ok (.invokevirtual 45, 3) := by decide +kernel
theorem dX5_of_38 : decode cX5_of 38 = .ok (.goto 22, 3) := by decide +kernel
theorem dX5_of_41 : decode cX5_of 41 = .ok (.aload_n 0, 1) := by decide +kernel
theorem dX5_of_42 : decode cX5_of 42 = .ok (.iload_n 1, 1) := by decide +kernel
theorem dX5_of_43 : decode cX5_of 43 = .ok (.aload_n 0, 1) := by decide +kernel
theorem dX5_of_44 : decode cX5_of 44 = .ok (.getfield 9, 3) := by decide +kernel
theorem dX5_of_47 : decode cX5_of 47 = .ok (.iconst 2, 1) := by decide +kernel
theorem dX5_of_48 : decode cX5_of 48 = .ok (.iaload, 1) := by decide +kernel
theorem dX5_of_49 : decode cX5_of 49 = .ok (.ifCond .le 7, 3) := by decide +kernel
theorem dX5_of_52 : decode cX5_of 52 = .ok (.iconst 1, 1) := by decide +kernel
theorem dX5_of_53 : decode cX5_of 53 = .ok (.goto 4, 3) := by decide +kernel
theorem dX5_of_56 : decode cX5_of 56 = .ok (.iconst 0, 1) := by decide +kernel
theorem dX5_of_57 : decode cX5_of 57 = .ok (.invokevirtual 79, 3) := by decide +kernel
theorem dX5_of_60 : decode cX5_of 60 = .ok (.ireturn, 1) := by decide +kernel
theorem dX5_mostOf_0 : decode cX5_mostOf 0 = .ok (.iload_n 0, 1) := by decide +kernel
theorem dX5_mostOf_1 : decode cX5_mostOf 1 = .ok (.iconst 1, 1) := by decide +kernel
theorem dX5_mostOf_2 : decode cX5_mostOf 2 = .ok (.if_icmp .eq 8, 3) := by decide +kernel
theorem dX5_mostOf_5 : decode cX5_mostOf 5 = .ok (.iload_n 0, 1) := by decide +kernel
theorem dX5_mostOf_6 : decode cX5_mostOf 6 = .ok (.iconst 4, 1) := by decide +kernel
theorem dX5_mostOf_7 : decode cX5_mostOf 7 = .ok (.if_icmp .ne 7, 3) := by decide +kernel
theorem dX5_mostOf_10 : decode cX5_mostOf 10 = .ok (.iconst 1, 1) := by decide +kernel
theorem dX5_mostOf_11 : decode cX5_mostOf 11 = .ok (.goto 16, 3) := by decide +kernel
theorem dX5_mostOf_14 : decode cX5_mostOf 14 = .ok (.iload_n 0, 1) := by decide +kernel
theorem dX5_mostOf_15 : decode cX5_mostOf 15 = .ok (.iconst 2, 1) := by decide +kernel
theorem dX5_mostOf_16 : decode cX5_mostOf 16 = .ok (.if_icmp .ne 8, 3) := by decide +kernel
theorem dX5_mostOf_19 : decode cX5_mostOf 19 = .ok (.bipush 9, 2) := by decide +kernel
theorem dX5_mostOf_21 : decode cX5_mostOf 21 = .ok (.goto 6, 3) := by decide +kernel
theorem dX5_mostOf_24 : decode cX5_mostOf 24 = .ok (.sipush 999, 3) := by decide +kernel
theorem dX5_mostOf_27 : decode cX5_mostOf 27 = .ok (.ireturn, 1) := by decide +kernel
set_option maxRecDepth 20000 in
theorem ggX5_set_X5_isPerson : GoodIn wsX5_set wsX5_isPerson := goodIn_r _ [6, 7, 8, 9, 5, 10, 23, 24, 25, 26, 27, 28, 29, 30, 31, 32, 33, 34, 35, 36, 37] (by decide +kernel) (by decide +kernel)
set_option maxRecDepth 20000 in
theorem gX5_set_X5_isPerson : GoodIn wsX5_set (wsV RX5 75 RX5 yX5_isPerson wsX5_isPerson) := goodIn_app (goodIn_of _ (by decide +kernel)) ggX5_set_X5_isPerson
set_option maxRecDepth 20000 in
theorem ggX5_set_X5_in : GoodIn wsX5_set wsX5_in := goodIn_r _ [10] (by decide +kernel) (by decide +kernel)
set_option maxRecDepth 20000 in
theorem gX5_set_X5_in : GoodIn wsX5_set (va_wsS RX5 41 yX5_in wsX5_in) := goodIn_app (goodIn_of _ (by decide +kernel)) ggX5_set_X5_in
set_option maxRecDepth 20000 in
theorem ggX5_set_X5_mostOf : GoodIn wsX5_set wsX5_mostOf := goodIn_r _ [13] (by decide +kernel) (by decide +kernel)
set_option maxRecDepth 20000 in
theorem gX5_set_X5_mostOf : GoodIn wsX5_set (va_wsS RX5 83 yX5_mostOf wsX5_mostOf) := goodIn_app (goodIn_of _ (by decide +kernel)) ggX5_set_X5_mostOf
set_option maxRecDepth 20000 in
theorem ggX5_set_X5_becomes : GoodIn wsX5_set wsX5_becomes := goodIn_r _ [17, 7, 23, 24, 25, 26, 27, 28, 29, 30, 31, 32, 33, 34, 35, 36, 37] (by decide +kernel) (by decide +kernel)
set_option maxRecDepth 20000 in
theorem gX5_set_X5_becomes : GoodIn wsX5_set (wsV RX5 53 RX5 yX5_becomes wsX5_becomes) := goodIn_app (goodIn_of _ (by decide +kernel)) ggX5_set_X5_becomes
set_option maxRecDepth 20000 in
theorem ggX5_set_X5_finds : GoodIn wsX5_set wsX5_finds := goodIn_r _ [21, 22, 1, 23, 24, 25, 26, 27, 28, 29, 30, 31, 32, 33, 34, 35, 36, 37] (by decide +kernel) (by decide +kernel)
set_option maxRecDepth 20000 in
theorem gX5_set_X5_finds : GoodIn wsX5_set (wsV RX5 37 RX5 yX5_finds wsX5_finds) := goodIn_app (goodIn_of _ (by decide +kernel)) ggX5_set_X5_finds
theorem dX5_set_0 : decode cX5_set 0 = .ok (.aload_n 0, 1) := by decide +kernel
theorem dX5_set_1 : decode cX5_set 1 = .ok (.iload_n 1, 1) := by decide +kernel
theorem dX5_set_2 : decode cX5_set 2 = .ok (.invokevirtual 75, 3) := by decide +kernel
theorem dX5_set_5 : decode cX5_set 5 = .ok (.ifCond .eq 30, 3) := by decide +kernel
theorem dX5_set_8 : decode cX5_set 8 = .ok (.iload_n 2, 1) := by decide +kernel
theorem dX5_set_9 : decode cX5_set 9 = .ok (.i2l, 1) := by decide +kernel
theorem dX5_set_10 : decode cX5_set 10 = .ok (.iconst 1, 1) := by decide +kernel
theorem dX5_set_11 : decode cX5_set 11 = .ok (.iconst 5, 1) := by decide +kernel
theorem dX5_set_12 : decode cX5_set 12 = .ok (.invokestatic 41, 3) := by decide +kernel
theorem dX5_set_15 : decode cX5_set 15 = .ok (.ifCond .eq 20, 3) := by decide +kernel
theorem dX5_set_18 : decode cX5_set 18 = .ok (.iload_n 3, 1) := by decide +kernel
theorem dX5_set_19 : decode cX5_set 19 = .ok (.i2l, 1) := by decide +kernel
theorem dX5_set_20 : decode cX5_set 20 = .ok (.iconst 0, 1) := by decide +kernel
theorem dX5_set_21 : decode cX5_set 21 = .ok (.iload_n 2, 1) := by decide +kernel
theorem dX5_set_22 : decode cX5_set 22 = .ok (.invokestatic 83, 3) := by decide +kernel
theorem dX5_set_25 : decode cX5_set 25 = .ok (.invokestatic 41, 3) := by decide +kernel
theorem dX5_set_28 : decode cX5_set 28 = .ok (.ifCond .eq 7, 3) := by decide +kernel
theorem dX5_set_31 : decode cX5_set 31 = .ok (.iconst 1, 1) := by decide +kernel
theorem dX5_set_32 : decode cX5_set 32 = .ok (.goto 4, 3) := by decide +kernel
theorem dX5_set_35 : decode cX5_set 35 = .ok (.iconst 0, 1) := by decide +kernel
theorem dX5_set_36 : decode cX5_set 36 = .ok (.istore 4, 2) := by decide +kernel
theorem dX5_set_38 : decode cX5_set 38 = .ok (.iload 4, 2) := by decide +kernel
theorem dX5_set_40 : decode cX5_set 40 = .ok (.ifCond .eq 19, 3) := by decide +kernel
theorem dX5_set_43 : decode cX5_set 43 = .ok (.aload_n 0, 1) := by decide +kernel
theorem dX5_set_44 : decode cX5_set 44 = .ok (.iconst 5, 1) := by decide +kernel
theorem dX5_set_45 : decode cX5_set 45 = .ok (.bipush 6, 2) := by decide +kernel
theorem dX5_set_47 : decode cX5_set 47 = .ok (.iload_n 1, 1) := by decide +kernel
theorem dX5_set_48 : decode cX5_set 48 = .ok (.imul, 1) := by decide +kernel
theorem dX5_set_49 : decode cX5_set 49 = .ok (.iadd, 1) := by decide +kernel
theorem dX5_set_50 : decode cX5_set 50 = .ok (.iload_n 2, 1) := by decide +kernel
theorem dX5_set_51 : decode cX5_set 51 = .ok (.iadd, 1) := by decide +kernel
theorem dX5_set_52 : decode cX5_set 52 = .ok (.iload_n 3, 1) := by decide +kernel
theorem dX5_set_53 : decode cX5_set 53 = .ok (.invokevirtual 53, 3) := by decide +kernel
theorem dX5_set_56 : decode cX5_set 56 = .ok (.goto 9, 3) := by decide +kernel
theorem dX5_set_59 : decode cX5_set 59 = .ok (.aload_n 0, 1) := by decide +kernel
theorem dX5_set_60 : decode cX5_set 60 = .ok (.ldc 35, 2) := by decide +kernel
theorem dX5_set_62 : decode cX5_set 62 = .ok (.invokevirtual 37, 3) := by decide +kernel
theorem dX5_set_65 : decode cX5_set 65 = .ok (.ireturn, 1) := by decide +kernel
set_option maxRecDepth 20000 in
theorem ggX5_turn_X5_isPerson : GoodIn wsX5_turn wsX5_isPerson := goodIn_r _ [6, 7, 8, 9, 5, 10, 20, 21, 22, 23, 24, 25, 26, 27, 28, 29, 30, 31, 32, 33, 34] (by decide +kernel) (by decide +kernel)
set_option maxRecDepth 20000 in
theorem gX5_turn_X5_isPerson : GoodIn wsX5_turn (wsV RX5 75 RX5 yX5_isPerson wsX5_isPerson) := goodIn_app (goodIn_of _ (by decide +kernel)) ggX5_turn_X5_isPerson
set_option maxRecDepth 20000 in
theorem ggX5_turn_X5_in : GoodIn wsX5_turn wsX5_in := goodIn_r _ [10] (by decide +kernel) (by decide +kernel)
set_option maxRecDepth 20000 in
theorem gX5_turn_X5_in : GoodIn wsX5_turn (va_wsS RX5 41 yX5_in wsX5_in) := goodIn_app (goodIn_of _ (by decide +kernel)) ggX5_turn_X5_in
set_option maxRecDepth 20000 in
theorem ggX5_turn_X5_becomes : GoodIn wsX5_turn wsX5_becomes := goodIn_r _ [14, 7, 20, 21, 22, 23, 24, 25, 26, 27, 28, 29, 30, 31, 32, 33, 34] (by decide +kernel) (by decide +kernel)
set_option maxRecDepth 20000 in
theorem gX5_turn_X5_becomes : GoodIn wsX5_turn (wsV RX5 53 RX5 yX5_becomes wsX5_becomes) := goodIn_app (goodIn_of _ (by decide +kernel)) ggX5_turn_X5_becomes
set_option maxRecDepth 20000 in
theorem ggX5_turn_X5_finds : GoodIn wsX5_turn wsX5_finds := goodIn_r _ [18, 19, 1, 20, 21, 22, 23, 24, 25, 26, 27, 28, 29, 30, 31, 32, 33, 34] (by decide +kernel) (by decide +kernel)
set_option maxRecDepth 20000 in
theorem gX5_turn_X5_finds : GoodIn wsX5_turn (wsV RX5 37 RX5 yX5_finds wsX5_finds) := goodIn_app (goodIn_of _ (by decide +kernel)) ggX5_turn_X5_finds
theorem dX5_turn_0 : decode cX5_turn 0 = .ok (.aload_n 0, 1) := by decide +kernel
theorem dX5_turn_1 : decode cX5_turn 1 = .ok (.iload_n 1, 1) := by decide +kernel
theorem dX5_turn_2 : decode cX5_turn 2 = .ok (.invokevirtual 75, 3) := by decide +kernel
theorem dX5_turn_5 : decode cX5_turn 5 = .ok (.ifCond .eq 27, 3) := by decide +kernel
theorem dX5_turn_8 : decode cX5_turn 8 = .ok (.iload_n 2, 1) := by decide +kernel
theorem dX5_turn_9 : decode cX5_turn 9 = .ok (.i2l, 1) := by decide +kernel
theorem dX5_turn_10 : decode cX5_turn 10 = .ok (.iconst 0, 1) := by decide +kernel
theorem dX5_turn_11 : decode cX5_turn 11 = .ok (.iconst 5, 1) := by decide +kernel
theorem dX5_turn_12 : decode cX5_turn 12 = .ok (.invokestatic 41, 3) := by decide +kernel
theorem dX5_turn_15 : decode cX5_turn 15 = .ok (.ifCond .eq 17, 3) := by decide +kernel
theorem dX5_turn_18 : decode cX5_turn 18 = .ok (.aload_n 0, 1) := by decide +kernel
theorem dX5_turn_19 : decode cX5_turn 19 = .ok (.iconst 5, 1) := by decide +kernel
theorem dX5_turn_20 : decode cX5_turn 20 = .ok (.bipush 6, 2) := by decide +kernel
theorem dX5_turn_22 : decode cX5_turn 22 = .ok (.iload_n 1, 1) := by decide +kernel
theorem dX5_turn_23 : decode cX5_turn 23 = .ok (.imul, 1) := by decide +kernel
theorem dX5_turn_24 : decode cX5_turn 24 = .ok (.iadd, 1) := by decide +kernel
theorem dX5_turn_25 : decode cX5_turn 25 = .ok (.iload_n 2, 1) := by decide +kernel
theorem dX5_turn_26 : decode cX5_turn 26 = .ok (.invokevirtual 53, 3) := by decide +kernel
theorem dX5_turn_29 : decode cX5_turn 29 = .ok (.goto 9, 3) := by decide +kernel
theorem dX5_turn_32 : decode cX5_turn 32 = .ok (.aload_n 0, 1) := by decide +kernel
theorem dX5_turn_33 : decode cX5_turn 33 = .ok (.ldc 35, 2) := by decide +kernel
theorem dX5_turn_35 : decode cX5_turn 35 = .ok (.invokevirtual 37, 3) := by decide +kernel
theorem dX5_turn_38 : decode cX5_turn 38 = .ok (.ireturn, 1) := by decide +kernel
set_option maxRecDepth 20000 in
theorem ggX5_as_X5_isPerson : GoodIn wsX5_as wsX5_isPerson := goodIn_r _ [7, 8, 9, 10, 6, 11, 21, 22, 23, 24, 25, 26, 27, 28, 29, 30, 31, 32, 33, 34, 35] (by decide +kernel) (by decide +kernel)
set_option maxRecDepth 20000 in
theorem gX5_as_X5_isPerson : GoodIn wsX5_as (wsV RX5 75 RX5 yX5_isPerson wsX5_isPerson) := goodIn_app (goodIn_of _ (by decide +kernel)) ggX5_as_X5_isPerson
set_option maxRecDepth 20000 in
theorem ggX5_as_X5_in : GoodIn wsX5_as wsX5_in := goodIn_r _ [11] (by decide +kernel) (by decide +kernel)
set_option maxRecDepth 20000 in
theorem gX5_as_X5_in : GoodIn wsX5_as (va_wsS RX5 41 yX5_in wsX5_in) := goodIn_app (goodIn_of _ (by decide +kernel)) ggX5_as_X5_in
set_option maxRecDepth 20000 in
theorem ggX5_as_X5_finds : GoodIn wsX5_as wsX5_finds := goodIn_r _ [15, 16, 1, 21, 22, 23, 24, 25, 26, 27, 28, 29, 30, 31, 32, 33, 34, 35] (by decide +kernel) (by decide +kernel)
set_option maxRecDepth 20000 in
theorem gX5_as_X5_finds : GoodIn wsX5_as (wsV RX5 37 RX5 yX5_finds wsX5_finds) := goodIn_app (goodIn_of _ (by decide +kernel)) ggX5_as_X5_finds
set_option maxRecDepth 20000 in
theorem ggX5_as_X5_it : GoodIn wsX5_as wsX5_it := goodIn_r _ [20, 8, 21, 22, 23, 24, 25, 26, 27, 28, 29, 30, 31, 32, 33, 34, 35] (by decide +kernel) (by decide +kernel)
set_option maxRecDepth 20000 in
theorem gX5_as_X5_it : GoodIn wsX5_as (wsV RX5 45 RX5 yX5_it wsX5_it) := goodIn_app (goodIn_of _ (by decide +kernel)) ggX5_as_X5_it
theorem dX5_as_0 : decode cX5_as 0 = .ok (.aload_n 0, 1) := by decide +kernel
theorem dX5_as_1 : decode cX5_as 1 = .ok (.iload_n 1, 1) := by decide +kernel
theorem dX5_as_2 : decode cX5_as 2 = .ok (.invokevirtual 75, 3) := by decide +kernel
theorem dX5_as_5 : decode cX5_as 5 = .ok (.ifCond .eq 13, 3) := by decide +kernel
theorem dX5_as_8 : decode cX5_as 8 = .ok (.iload_n 2, 1) := by decide +kernel
theorem dX5_as_9 : decode cX5_as 9 = .ok (.i2l, 1) := by decide +kernel
theorem dX5_as_10 : decode cX5_as 10 = .ok (.iconst 0, 1) := by decide +kernel
theorem dX5_as_11 : decode cX5_as 11 = .ok (.iconst 5, 1) := by decide +kernel
theorem dX5_as_12 : decode cX5_as 12 = .ok (.invokestatic 41, 3) := by decide +kernel
theorem dX5_as_15 : decode cX5_as 15 = .ok (.ifCond .ne 10, 3) := by decide +kernel
theorem dX5_as_18 : decode cX5_as 18 = .ok (.aload_n 0, 1) := by decide +kernel
theorem dX5_as_19 : decode cX5_as 19 = .ok (.ldc 35, 2) := by decide +kernel
theorem dX5_as_21 : decode cX5_as 21 = .ok (.invokevirtual 37, 3) := by decide +kernel
theorem dX5_as_24 : decode cX5_as 24 = .ok (.ireturn, 1) := by decide +kernel
theorem dX5_as_25 : decode cX5_as 25 = .ok (.aload_n 0, 1) := by decide +kernel
theorem dX5_as_26 : decode cX5_as 26 = .ok (.iload_n 1, 1) := by decide +kernel
theorem dX5_as_27 : decode cX5_as 27 = .ok (.iconst 0, 1) := by decide +kernel
theorem dX5_as_28 : decode cX5_as 28 = .ok (.invokevirtual 45, 3) := by decide +kernel
theorem dX5_as_31 : decode cX5_as 31 = .ok (.istore_n 3, 1) := by decide +kernel
theorem dX5_as_32 : decode cX5_as 32 = .ok (.iload_n 2, 1) := by decide +kernel
theorem dX5_as_33 : decode cX5_as 33 = .ok (.ifCond .eq 28, 3) := by decide +kernel
theorem dX5_as_36 : decode cX5_as 36 = .ok (.iload_n 2, 1) := by decide +kernel
theorem dX5_as_37 : decode cX5_as 37 = .ok (.iload_n 3, 1) := by decide +kernel
theorem dX5_as_38 : decode cX5_as 38 = .ok (.if_icmp .eq 23, 3) := by decide +kernel
theorem dX5_as_41 : decode cX5_as 41 = .ok (.iload_n 2, 1) := by decide +kernel
theorem dX5_as_42 : decode cX5_as 42 = .ok (.iconst 3, 1) := by decide +kernel
theorem dX5_as_43 : decode cX5_as 43 = .ok (.if_icmp .ne 8, 3) := by decide +kernel
theorem dX5_as_46 : decode cX5_as 46 = .ok (.iload_n 3, 1) := by decide +kernel
theorem dX5_as_47 : decode cX5_as 47 = .ok (.iconst 4, 1) := by decide +kernel
theorem dX5_as_48 : decode cX5_as 48 = .ok (.if_icmp .eq 13, 3) := by decide +kernel
theorem dX5_as_51 : decode cX5_as 51 = .ok (.iload_n 2, 1) := by decide +kernel
theorem dX5_as_52 : decode cX5_as 52 = .ok (.iconst 2, 1) := by decide +kernel
theorem dX5_as_53 : decode cX5_as 53 = .ok (.if_icmp .ne 12, 3) := by decide +kernel
theorem dX5_as_56 : decode cX5_as 56 = .ok (.iload_n 3, 1) := by decide +kernel
theorem dX5_as_57 : decode cX5_as 57 = .ok (.iconst 5, 1) := by decide +kernel
theorem dX5_as_58 : decode cX5_as 58 = .ok (.if_icmp .ne 7, 3) := by decide +kernel
theorem dX5_as_61 : decode cX5_as 61 = .ok (.iconst 1, 1) := by decide +kernel
theorem dX5_as_62 : decode cX5_as 62 = .ok (.goto 4, 3) := by decide +kernel
theorem dX5_as_65 : decode cX5_as 65 = .ok (.iconst 0, 1) := by decide +kernel
theorem dX5_as_66 : decode cX5_as 66 = .ok (.istore 4, 2) := by decide +kernel
theorem dX5_as_68 : decode cX5_as 68 = .ok (.iload 4, 2) := by decide +kernel
theorem dX5_as_70 : decode cX5_as 70 = .ok (.ifCond .eq 12, 3) := by decide +kernel
theorem dX5_as_73 : decode cX5_as 73 = .ok (.aload_n 0, 1) := by decide +kernel
theorem dX5_as_74 : decode cX5_as 74 = .ok (.iload_n 1, 1) := by decide +kernel
theorem dX5_as_75 : decode cX5_as 75 = .ok (.iconst 3, 1) := by decide +kernel
theorem dX5_as_76 : decode cX5_as 76 = .ok (.invokevirtual 45, 3) := by decide +kernel
theorem dX5_as_79 : decode cX5_as 79 = .ok (.goto 9, 3) := by decide +kernel
theorem dX5_as_82 : decode cX5_as 82 = .ok (.aload_n 0, 1) := by decide +kernel
theorem dX5_as_83 : decode cX5_as 83 = .ok (.ldc 86, 2) := by decide +kernel
theorem dX5_as_85 : decode cX5_as 85 = .ok (.invokevirtual 37, 3) := by decide +kernel
theorem dX5_as_88 : decode cX5_as 88 = .ok (.ireturn, 1) := by decide +kernel
set_option maxRecDepth 20000 in
theorem ggX5_areTwo_X5_isPerson : GoodIn wsX5_areTwo wsX5_isPerson := goodIn_r _ [5, 6, 7, 8, 4, 9, 10, 11, 12, 13, 14, 15, 16, 17, 18, 19, 20, 21, 22, 23, 24] (by decide +kernel) (by decide +kernel)
set_option maxRecDepth 20000 in
theorem gX5_areTwo_X5_isPerson : GoodIn wsX5_areTwo (wsV RX5 75 RX5 yX5_isPerson wsX5_isPerson) := goodIn_app (goodIn_of _ (by decide +kernel)) ggX5_areTwo_X5_isPerson
theorem dX5_areTwo_0 : decode cX5_areTwo 0 = .ok (.aload_n 0, 1) := by decide +kernel
theorem dX5_areTwo_1 : decode cX5_areTwo 1 = .ok (.iload_n 1, 1) := by decide +kernel
theorem dX5_areTwo_2 : decode cX5_areTwo 2 = .ok (.invokevirtual 75, 3) := by decide +kernel
theorem dX5_areTwo_5 : decode cX5_areTwo 5 = .ok (.ifCond .eq 20, 3) := by decide +kernel
theorem dX5_areTwo_8 : decode cX5_areTwo 8 = .ok (.aload_n 0, 1) := by decide +kernel
theorem dX5_areTwo_9 : decode cX5_areTwo 9 = .ok (.iload_n 2, 1) := by decide +kernel
theorem dX5_areTwo_10 : decode cX5_areTwo 10 = .ok (.invokevirtual 75, 3) := by decide +kernel
theorem dX5_areTwo_13 : decode cX5_areTwo 13 = .ok (.ifCond .eq 12, 3) := by decide +kernel
theorem dX5_areTwo_16 : decode cX5_areTwo 16 = .ok (.iload_n 1, 1) := by decide +kernel
theorem dX5_areTwo_17 : decode cX5_areTwo 17 = .ok (.iload_n 2, 1) := by decide +kernel
theorem dX5_areTwo_18 : decode cX5_areTwo 18 = .ok (.if_icmp .eq 7, 3) := by decide +kernel
theorem dX5_areTwo_21 : decode cX5_areTwo 21 = .ok (.iconst 1, 1) := by decide +kernel
theorem dX5_areTwo_22 : decode cX5_areTwo 22 = .ok (.goto 4, 3) := by decide +kernel
theorem dX5_areTwo_25 : decode cX5_areTwo 25 = .ok (.iconst 0, 1) := by decide +kernel
theorem dX5_areTwo_26 : decode cX5_areTwo 26 = .ok (.ireturn, 1) := by decide +kernel
set_option maxRecDepth 20000 in
theorem ggX5_holds_X5_areTwo : GoodIn wsX5_holds wsX5_areTwo := goodIn_r _ [6, 7, 8, 9, 5, 10, 11, 12, 13, 14, 28, 29, 30, 31, 32, 33, 34, 35, 36, 37, 38, 39, 40, 41, 42] (by decide +kernel) (by decide +kernel)
set_option maxRecDepth 20000 in
theorem gX5_holds_X5_areTwo : GoodIn wsX5_holds (wsV RX5 87 RX5 yX5_areTwo wsX5_areTwo) := goodIn_app (goodIn_of _ (by decide +kernel)) ggX5_holds_X5_areTwo
set_option maxRecDepth 20000 in
theorem ggX5_holds_X5_holdsFor : GoodIn wsX5_holds wsX5_holdsFor := goodIn_r _ [18, 19, 20, 21, 5, 22, 11, 28, 29, 30, 31, 32, 33, 34, 35, 36, 37, 38, 39, 40, 41, 42] (by decide +kernel) (by decide +kernel)
set_option maxRecDepth 20000 in
theorem gX5_holds_X5_holdsFor : GoodIn wsX5_holds (wsV RX5 91 RX5 yX5_holdsFor wsX5_holdsFor) := goodIn_app (goodIn_of _ (by decide +kernel)) ggX5_holds_X5_holdsFor
set_option maxRecDepth 20000 in
theorem ggX5_holds_X5_finds : GoodIn wsX5_holds wsX5_finds := goodIn_r _ [26, 27, 1, 28, 29, 30, 31, 32, 33, 34, 35, 36, 37, 38, 39, 40, 41, 42] (by decide +kernel) (by decide +kernel)
set_option maxRecDepth 20000 in
theorem gX5_holds_X5_finds : GoodIn wsX5_holds (wsV RX5 37 RX5 yX5_finds wsX5_finds) := goodIn_app (goodIn_of _ (by decide +kernel)) ggX5_holds_X5_finds
theorem dX5_holds_0 : decode cX5_holds 0 = .ok (.aload_n 0, 1) := by decide +kernel
theorem dX5_holds_1 : decode cX5_holds 1 = .ok (.iload_n 1, 1) := by decide +kernel
theorem dX5_holds_2 : decode cX5_holds 2 = .ok (.iload_n 2, 1) := by decide +kernel
theorem dX5_holds_3 : decode cX5_holds 3 = .ok (.invokevirtual 87, 3) := by decide +kernel
theorem dX5_holds_6 : decode cX5_holds 6 = .ok (.ifCond .eq 12, 3) := by decide +kernel
theorem dX5_holds_9 : decode cX5_holds 9 = .ok (.aload_n 0, 1) := by decide +kernel
theorem dX5_holds_10 : decode cX5_holds 10 = .ok (.iload_n 1, 1) := by decide +kernel
theorem dX5_holds_11 : decode cX5_holds 11 = .ok (.iload_n 2, 1) := by decide +kernel
theorem dX5_holds_12 : decode cX5_holds 12 = .ok (.invokevirtual 91, 3) := by decide +kernel
theorem dX5_holds_15 : decode cX5_holds 15 = .ok (.goto 9, 3) := by decide +kernel
theorem dX5_holds_18 : decode cX5_holds 18 = .ok (.aload_n 0, 1) := by decide +kernel
theorem dX5_holds_19 : decode cX5_holds 19 = .ok (.ldc 35, 2) := by decide +kernel
theorem dX5_holds_21 : decode cX5_holds 21 = .ok (.invokevirtual 37, 3) := by decide +kernel
theorem dX5_holds_24 : decode cX5_holds 24 = .ok (.ireturn, 1) := by decide +kernel
set_option maxRecDepth 20000 in
theorem ggX5_asks_X5_areTwo : GoodIn wsX5_asks wsX5_areTwo := goodIn_r _ [6, 7, 8, 9, 5, 10, 11, 12, 13, 14, 28, 29, 30, 31, 32, 33, 34, 35, 36, 37, 38, 39, 40, 41, 42] (by decide +kernel) (by decide +kernel)
set_option maxRecDepth 20000 in
theorem gX5_asks_X5_areTwo : GoodIn wsX5_asks (wsV RX5 87 RX5 yX5_areTwo wsX5_areTwo) := goodIn_app (goodIn_of _ (by decide +kernel)) ggX5_asks_X5_areTwo
set_option maxRecDepth 20000 in
theorem ggX5_asks_X5_doesAsk : GoodIn wsX5_asks wsX5_doesAsk := goodIn_r _ [18, 11, 19, 20, 21, 5, 22, 28, 29, 30, 31, 32, 33, 34, 35, 36, 37, 38, 39, 40, 41, 42] (by decide +kernel) (by decide +kernel)
set_option maxRecDepth 20000 in
theorem gX5_asks_X5_doesAsk : GoodIn wsX5_asks (wsV RX5 94 RX5 yX5_doesAsk wsX5_doesAsk) := goodIn_app (goodIn_of _ (by decide +kernel)) ggX5_asks_X5_doesAsk
set_option maxRecDepth 20000 in
theorem ggX5_asks_X5_finds : GoodIn wsX5_asks wsX5_finds := goodIn_r _ [26, 27, 1, 28, 29, 30, 31, 32, 33, 34, 35, 36, 37, 38, 39, 40, 41, 42] (by decide +kernel) (by decide +kernel)
set_option maxRecDepth 20000 in
theorem gX5_asks_X5_finds : GoodIn wsX5_asks (wsV RX5 37 RX5 yX5_finds wsX5_finds) := goodIn_app (goodIn_of _ (by decide +kernel)) ggX5_asks_X5_finds
theorem dX5_asks_0 : decode cX5_asks 0 = .ok (.aload_n 0, 1) := by decide +kernel
theorem dX5_asks_1 : decode cX5_asks 1 = .ok (.iload_n 1, 1) := by decide +kernel
theorem dX5_asks_2 : decode cX5_asks 2 = .ok (.iload_n 2, 1) := by decide +kernel
theorem dX5_asks_3 : decode cX5_asks 3 = .ok (.invokevirtual 87, 3) := by decide +kernel
theorem dX5_asks_6 : decode cX5_asks 6 = .ok (.ifCond .eq 20, 3) := by decide +kernel
theorem dX5_asks_9 : decode cX5_asks 9 = .ok (.aload_n 0, 1) := by decide +kernel
theorem dX5_asks_10 : decode cX5_asks 10 = .ok (.iload_n 1, 1) := by decide +kernel
theorem dX5_asks_11 : decode cX5_asks 11 = .ok (.iload_n 2, 1) := by decide +kernel
theorem dX5_asks_12 : decode cX5_asks 12 = .ok (.invokevirtual 94, 3) := by decide +kernel
theorem dX5_asks_15 : decode cX5_asks 15 = .ok (.ifCond .eq 7, 3) := by decide +kernel
theorem dX5_asks_18 : decode cX5_asks 18 = .ok (.iconst 1, 1) := by decide +kernel
theorem dX5_asks_19 : decode cX5_asks 19 = .ok (.goto 13, 3) := by decide +kernel
theorem dX5_asks_22 : decode cX5_asks 22 = .ok (.iconst 0, 1) := by decide +kernel
theorem dX5_asks_23 : decode cX5_asks 23 = .ok (.goto 9, 3) := by decide +kernel
theorem dX5_asks_26 : decode cX5_asks 26 = .ok (.aload_n 0, 1) := by decide +kernel
theorem dX5_asks_27 : decode cX5_asks 27 = .ok (.ldc 35, 2) := by decide +kernel
theorem dX5_asks_29 : decode cX5_asks 29 = .ok (.invokevirtual 37, 3) := by decide +kernel
theorem dX5_asks_32 : decode cX5_asks 32 = .ok (.ireturn, 1) := by decide +kernel
set_option maxRecDepth 20000 in
theorem ggX5_nearest_X5_it : GoodIn wsX5_nearest wsX5_it := goodIn_r _ [6, 1, 7, 8, 9, 10, 11, 12, 13, 14, 15, 16, 17, 18, 19, 20, 21] (by decide +kernel) (by decide +kernel)
set_option maxRecDepth 20000 in
theorem gX5_nearest_X5_it : GoodIn wsX5_nearest (wsV RX5 45 RX5 yX5_it wsX5_it) := goodIn_app (goodIn_of _ (by decide +kernel)) ggX5_nearest_X5_it
theorem dX5_nearest_0 : decode cX5_nearest 0 = .ok (.iconst (-1), 1) := by decide +kernel
theorem dX5_nearest_1 : decode cX5_nearest 1 = .ok (.istore_n 1, 1) := by decide +kernel
theorem dX5_nearest_2 : decode cX5_nearest 2 = .ok (.iconst 0, 1) := by decide +kernel
theorem dX5_nearest_3 : decode cX5_nearest 3 = .ok (.istore_n 2, 1) := by decide +kernel
theorem dX5_nearest_4 : decode cX5_nearest 4 = .ok (.iload_n 2, 1) := by decide +kernel
theorem dX5_nearest_5 : decode cX5_nearest 5 = .ok (.aload_n 0, 1) := by decide +kernel
theorem dX5_nearest_6 : decode cX5_nearest 6 = .ok (.getfield 9, 3) := by decide +kernel
theorem dX5_nearest_9 : decode cX5_nearest 9 = .ok (.iconst 4, 1) := by decide +kernel
theorem dX5_nearest_10 : decode cX5_nearest 10 = .ok (.iaload, 1) := by decide +kernel
theorem dX5_nearest_11 : decode cX5_nearest 11 = .ok (.if_icmp .ge 43, 3) := by decide +kernel
theorem dX5_nearest_14 : decode cX5_nearest 14 = .ok (.aload_n 0, 1) := by decide +kernel
theorem dX5_nearest_15 : decode cX5_nearest 15 = .ok (.iload_n 2, 1) := by decide +kernel
theorem dX5_nearest_16 : decode cX5_nearest 16 = .ok (.iconst 4, 1) := by decide +kernel
theorem dX5_nearest_17 : decode cX5_nearest 17 = .ok (.invokevirtual 45, 3) := by decide +kernel
theorem dX5_nearest_20 : decode cX5_nearest 20 = .ok (.ifCond .ne 26, 3) := by decide +kernel
theorem dX5_nearest_23 : decode cX5_nearest 23 = .ok (.iload_n 1, 1) := by decide +kernel
theorem dX5_nearest_24 : decode cX5_nearest 24 = .ok (.ifCond .lt 18, 3) := by decide +kernel
theorem dX5_nearest_27 : decode cX5_nearest 27 = .ok (.aload_n 0, 1) := by decide +kernel
theorem dX5_nearest_28 : decode cX5_nearest 28 = .ok (.iload_n 2, 1) := by decide +kernel
theorem dX5_nearest_29 : decode cX5_nearest 29 = .ok (.iconst 3, 1) := by decide +kernel
theorem dX5_nearest_30 : decode cX5_nearest 30 = .ok (.invokevirtual 45, 3) := by decide +kernel
theorem dX5_nearest_33 : decode cX5_nearest 33 = .ok (.aload_n 0, 1) := by decide +kernel
theorem dX5_nearest_34 : decode cX5_nearest 34 = .ok (.iload_n 1, 1) := by decide +kernel
theorem dX5_nearest_35 : decode cX5_nearest 35 = .ok (.iconst 3, 1) := by decide +kernel
theorem dX5_nearest_36 : decode cX5_nearest 36 = .ok (.invokevirtual 45, 3) := by decide +kernel
theorem dX5_nearest_39 : decode cX5_nearest 39 = .ok (.if_icmp .ge 7, 3) := by decide +kernel
theorem dX5_nearest_42 : decode cX5_nearest 42 = .ok (.iload_n 2, 1) := by decide +kernel
theorem dX5_nearest_43 : decode cX5_nearest 43 = .ok (.goto 4, 3) := by decide +kernel
theorem dX5_nearest_46 : decode cX5_nearest 46 = .ok (.iload_n 1, 1) := by decide +kernel
theorem dX5_nearest_47 : decode cX5_nearest 47 = .ok (.istore_n 1, 1) := by decide +kernel
theorem dX5_nearest_48 : decode cX5_nearest 48 = .ok (.iinc 2 1, 3) := by decide +kernel
theorem dX5_nearest_51 : decode cX5_nearest 51 = .ok (.goto (-47), 3) := by decide +kernel
theorem dX5_nearest_54 : decode cX5_nearest 54 = .ok (.iload_n 1, 1) := by decide +kernel
theorem dX5_nearest_55 : decode cX5_nearest 55 = .ok (.ireturn, 1) := by decide +kernel
set_option maxRecDepth 20000 in
theorem ggX5_comesIn_X5_put : GoodIn wsX5_comesIn wsX5_put := goodIn_r _ [6, 1, 22, 23, 24, 25, 26, 27, 28, 29, 30, 31, 32, 33, 34, 35, 36] (by decide +kernel) (by decide +kernel)
set_option maxRecDepth 20000 in
theorem gX5_comesIn_X5_put : GoodIn wsX5_comesIn (wsV RX5 66 RX5 yX5_put wsX5_put) := goodIn_app (goodIn_of _ (by decide +kernel)) ggX5_comesIn_X5_put
set_option maxRecDepth 20000 in
theorem ggX5_comesIn_X5_nearest : GoodIn wsX5_comesIn wsX5_nearest := goodIn_r _ [10, 1, 11, 12, 13, 5, 14, 22, 23, 24, 25, 26, 27, 28, 29, 30, 31, 32, 33, 34, 35, 36] (by decide +kernel) (by decide +kernel)
set_option maxRecDepth 20000 in
theorem gX5_comesIn_X5_nearest : GoodIn wsX5_comesIn (wsV RX5 97 RX5 yX5_nearest wsX5_nearest) := goodIn_app (goodIn_of _ (by decide +kernel)) ggX5_comesIn_X5_nearest
set_option maxRecDepth 20000 in
theorem ggX5_comesIn_X5_holdsFor : GoodIn wsX5_comesIn wsX5_holdsFor := goodIn_r _ [18, 11, 12, 13, 5, 14, 1, 22, 23, 24, 25, 26, 27, 28, 29, 30, 31, 32, 33, 34, 35, 36] (by decide +kernel) (by decide +kernel)
set_option maxRecDepth 20000 in
theorem gX5_comesIn_X5_holdsFor : GoodIn wsX5_comesIn (wsV RX5 91 RX5 yX5_holdsFor wsX5_holdsFor) := goodIn_app (goodIn_of _ (by decide +kernel)) ggX5_comesIn_X5_holdsFor
set_option maxRecDepth 20000 in
theorem ggX5_comesIn_X5_held : GoodIn wsX5_comesIn wsX5_held := goodIn_r _ [21] (by decide +kernel) (by decide +kernel)
set_option maxRecDepth 20000 in
theorem gX5_comesIn_X5_held : GoodIn wsX5_comesIn (va_wsS RX5 49 yX5_held wsX5_held) := goodIn_app (goodIn_of _ (by decide +kernel)) ggX5_comesIn_X5_held
theorem dX5_comesIn_0 : decode cX5_comesIn 0 = .ok (.aload_n 0, 1) := by decide +kernel
theorem dX5_comesIn_1 : decode cX5_comesIn 1 = .ok (.iload_n 1, 1) := by decide +kernel
theorem dX5_comesIn_2 : decode cX5_comesIn 2 = .ok (.iconst 4, 1) := by decide +kernel
theorem dX5_comesIn_3 : decode cX5_comesIn 3 = .ok (.iconst 1, 1) := by decide +kernel
theorem dX5_comesIn_4 : decode cX5_comesIn 4 = .ok (.invokevirtual 66, 3) := by decide +kernel
theorem dX5_comesIn_7 : decode cX5_comesIn 7 = .ok (.aload_n 0, 1) := by decide +kernel
theorem dX5_comesIn_8 : decode cX5_comesIn 8 = .ok (.getfield 9, 3) := by decide +kernel
theorem dX5_comesIn_11 : decode cX5_comesIn 11 = .ok (.iconst 3, 1) := by decide +kernel
theorem dX5_comesIn_12 : decode cX5_comesIn 12 = .ok (.iload_n 1, 1) := by decide +kernel
theorem dX5_comesIn_13 : decode cX5_comesIn 13 = .ok (.iastore, 1) := by decide +kernel
theorem dX5_comesIn_14 : decode cX5_comesIn 14 = .ok (.aload_n 0, 1) := by decide +kernel
theorem dX5_comesIn_15 : decode cX5_comesIn 15 = .ok (.invokevirtual 97, 3) := by decide +kernel
theorem dX5_comesIn_18 : decode cX5_comesIn 18 = .ok (.istore_n 2, 1) := by decide +kernel
theorem dX5_comesIn_19 : decode cX5_comesIn 19 = .ok (.iload_n 2, 1) := by decide +kernel
theorem dX5_comesIn_20 : decode cX5_comesIn 20 = .ok (.ifCond .ge 7, 3) := by decide +kernel
theorem dX5_comesIn_23 : decode cX5_comesIn 23 = .ok (.iconst 0, 1) := by decide +kernel
theorem dX5_comesIn_24 : decode cX5_comesIn 24 = .ok (.goto 9, 3) := by decide +kernel
theorem dX5_comesIn_27 : decode cX5_comesIn 27 = .ok (.aload_n 0, 1) := by decide +kernel
theorem dX5_comesIn_28 : decode cX5_comesIn 28 = .ok (.iload_n 1, 1) := by decide +kernel
theorem dX5_comesIn_29 : decode cX5_comesIn 29 = .ok (.iload_n 2, 1) := by decide +kernel
theorem dX5_comesIn_30 : decode cX5_comesIn 30 = .ok (.invokevirtual 91, 3) := by decide +kernel
theorem dX5_comesIn_33 : decode cX5_comesIn 33 = .ok (.istore_n 3, 1) := by decide +kernel
theorem dX5_comesIn_34 : decode cX5_comesIn 34 = .ok (.aload_n 0, 1) := by decide +kernel
theorem dX5_comesIn_35 : decode cX5_comesIn 35 = .ok (.getfield 9, 3) := by decide +kernel
theorem dX5_comesIn_38 : decode cX5_comesIn 38 = .ok (.iconst 2, 1) := by decide +kernel
theorem dX5_comesIn_39 : decode cX5_comesIn 39 = .ok (.iload_n 3, 1) := by decide +kernel
theorem dX5_comesIn_40 : decode cX5_comesIn 40 = .ok (.aload_n 0, 1) := by decide +kernel
theorem dX5_comesIn_41 : decode cX5_comesIn 41 = .ok (.getfield 9, 3) := by decide +kernel
theorem dX5_comesIn_44 : decode cX5_comesIn 44 = .ok (.iconst 2, 1) := by decide +kernel
theorem dX5_comesIn_45 : decode cX5_comesIn 45 = .ok (.iaload, 1) := by decide +kernel
theorem dX5_comesIn_46 : decode cX5_comesIn 46 = .ok (.if_icmp .le 7, 3) := by decide +kernel
theorem dX5_comesIn_49 : decode cX5_comesIn 49 = .ok (.iload_n 3, 1) := by decide +kernel
theorem dX5_comesIn_50 : decode cX5_comesIn 50 = .ok (.goto 9, 3) := by decide +kernel
theorem dX5_comesIn_53 : decode cX5_comesIn 53 = .ok (.aload_n 0, 1) := by decide +kernel
theorem dX5_comesIn_54 : decode cX5_comesIn 54 = .ok (.getfield 9, 3) := by decide +kernel
theorem dX5_comesIn_57 : decode cX5_comesIn 57 = .ok (.iconst 2, 1) := by decide +kernel
theorem dX5_comesIn_58 : decode cX5_comesIn 58 = .ok (.iaload, 1) := by decide +kernel
theorem dX5_comesIn_59 : decode cX5_comesIn 59 = .ok (.iconst 0, 1) := by decide +kernel
theorem dX5_comesIn_60 : decode cX5_comesIn 60 = .ok (.bipush 60, 2) := by decide +kernel
theorem dX5_comesIn_62 : decode cX5_comesIn 62 = .ok (.invokestatic 49, 3) := by decide +kernel
theorem dX5_comesIn_65 : decode cX5_comesIn 65 = .ok (.iastore, 1) := by decide +kernel
theorem dX5_comesIn_66 : decode cX5_comesIn 66 = .ok (.return_, 1) := by decide +kernel
set_option maxRecDepth 20000 in
theorem ggX5_stands_X5_doesAsk : GoodIn wsX5_stands wsX5_doesAsk := goodIn_r _ [6, 1, 7, 8, 9, 5, 10, 30, 31, 32, 33, 34, 35, 36, 37, 38, 39, 40, 41, 42, 43, 44] (by decide +kernel) (by decide +kernel)
set_option maxRecDepth 20000 in
theorem gX5_stands_X5_doesAsk : GoodIn wsX5_stands (wsV RX5 94 RX5 yX5_doesAsk wsX5_doesAsk) := goodIn_app (goodIn_of _ (by decide +kernel)) ggX5_stands_X5_doesAsk
set_option maxRecDepth 20000 in
theorem ggX5_stands_X5_it : GoodIn wsX5_stands wsX5_it := goodIn_r _ [10, 1, 30, 31, 32, 33, 34, 35, 36, 37, 38, 39, 40, 41, 42, 43, 44] (by decide +kernel) (by decide +kernel)
set_option maxRecDepth 20000 in
theorem gX5_stands_X5_it : GoodIn wsX5_stands (wsV RX5 45 RX5 yX5_it wsX5_it) := goodIn_app (goodIn_of _ (by decide +kernel)) ggX5_stands_X5_it
set_option maxRecDepth 20000 in
theorem ggX5_stands_X5_held : GoodIn wsX5_stands wsX5_held := goodIn_r _ [13] (by decide +kernel) (by decide +kernel)
set_option maxRecDepth 20000 in
theorem gX5_stands_X5_held : GoodIn wsX5_stands (va_wsS RX5 49 yX5_held wsX5_held) := goodIn_app (goodIn_of _ (by decide +kernel)) ggX5_stands_X5_held
set_option maxRecDepth 20000 in
theorem ggX5_stands_X5_put : GoodIn wsX5_stands wsX5_put := goodIn_r _ [17, 1, 30, 31, 32, 33, 34, 35, 36, 37, 38, 39, 40, 41, 42, 43, 44] (by decide +kernel) (by decide +kernel)
set_option maxRecDepth 20000 in
theorem gX5_stands_X5_put : GoodIn wsX5_stands (wsV RX5 66 RX5 yX5_put wsX5_put) := goodIn_app (goodIn_of _ (by decide +kernel)) ggX5_stands_X5_put
set_option maxRecDepth 20000 in
theorem ggX5_stands_X5_comesIn : GoodIn wsX5_stands wsX5_comesIn := goodIn_r _ [21, 1, 14, 15, 16, 5, 17, 22, 23, 24, 25, 7, 8, 9, 10, 26, 27, 28, 29, 11, 12, 13, 30, 31, 32, 33, 34, 35, 36, 37, 38, 39, 40, 41, 42, 43, 44] (by decide +kernel) (by decide +kernel)
set_option maxRecDepth 20000 in
theorem gX5_stands_X5_comesIn : GoodIn wsX5_stands (wsV RX5 100 RX5 yX5_comesIn wsX5_comesIn) := goodIn_app (goodIn_of _ (by decide +kernel)) ggX5_stands_X5_comesIn
theorem dX5_stands_0 : decode cX5_stands 0 = .ok (.aload_n 0, 1) := by decide +kernel
theorem dX5_stands_1 : decode cX5_stands 1 = .ok (.getfield 9, 3) := by decide +kernel
theorem dX5_stands_4 : decode cX5_stands 4 = .ok (.iconst 2, 1) := by decide +kernel
theorem dX5_stands_5 : decode cX5_stands 5 = .ok (.iaload, 1) := by decide +kernel
theorem dX5_stands_6 : decode cX5_stands 6 = .ok (.ifCond .le 30, 3) := by decide +kernel
theorem dX5_stands_9 : decode cX5_stands 9 = .ok (.aload_n 0, 1) := by decide +kernel
theorem dX5_stands_10 : decode cX5_stands 10 = .ok (.getfield 9, 3) := by decide +kernel
theorem dX5_stands_13 : decode cX5_stands 13 = .ok (.iconst 3, 1) := by decide +kernel
theorem dX5_stands_14 : decode cX5_stands 14 = .ok (.iaload, 1) := by decide +kernel
theorem dX5_stands_15 : decode cX5_stands 15 = .ok (.ifCond .lt 21, 3) := by decide +kernel
theorem dX5_stands_18 : decode cX5_stands 18 = .ok (.aload_n 0, 1) := by decide +kernel
theorem dX5_stands_19 : decode cX5_stands 19 = .ok (.aload_n 0, 1) := by decide +kernel
theorem dX5_stands_20 : decode cX5_stands 20 = .ok (.getfield 9, 3) := by decide +kernel
theorem dX5_stands_23 : decode cX5_stands 23 = .ok (.iconst 3, 1) := by decide +kernel
theorem dX5_stands_24 : decode cX5_stands 24 = .ok (.iaload, 1) := by decide +kernel
theorem dX5_stands_25 : decode cX5_stands 25 = .ok (.iload_n 1, 1) := by decide +kernel
theorem dX5_stands_26 : decode cX5_stands 26 = .ok (.invokevirtual 94, 3) := by decide +kernel
theorem dX5_stands_29 : decode cX5_stands 29 = .ok (.ifCond .eq 7, 3) := by decide +kernel
theorem dX5_stands_32 : decode cX5_stands 32 = .ok (.iconst 1, 1) := by decide +kernel
theorem dX5_stands_33 : decode cX5_stands 33 = .ok (.goto 4, 3) := by decide +kernel
theorem dX5_stands_36 : decode cX5_stands 36 = .ok (.iconst 0, 1) := by decide +kernel
theorem dX5_stands_37 : decode cX5_stands 37 = .ok (.istore_n 2, 1) := by decide +kernel
theorem dX5_stands_38 : decode cX5_stands 38 = .ok (.aload_n 0, 1) := by decide +kernel
theorem dX5_stands_39 : decode cX5_stands 39 = .ok (.iload_n 1, 1) := by decide +kernel
theorem dX5_stands_40 : decode cX5_stands 40 = .ok (.iconst 5, 1) := by decide +kernel
theorem dX5_stands_41 : decode cX5_stands 41 = .ok (.aload_n 0, 1) := by decide +kernel
theorem dX5_stands_42 : decode cX5_stands 42 = .ok (.iload_n 1, 1) := by decide +kernel
theorem dX5_stands_43 : decode cX5_stands 43 = .ok (.iconst 5, 1) := by decide +kernel
theorem dX5_stands_44 : decode cX5_stands 44 = .ok (.invokevirtual 45, 3) := by decide +kernel
theorem dX5_stands_47 : decode cX5_stands 47 = .ok (.iload_n 2, 1) := by decide +kernel
theorem dX5_stands_48 : decode cX5_stands 48 = .ok (.ifCond .eq 7, 3) := by decide +kernel
theorem dX5_stands_51 : decode cX5_stands 51 = .ok (.iconst 1, 1) := by decide +kernel
theorem dX5_stands_52 : decode cX5_stands 52 = .ok (.goto 4, 3) := by decide +kernel
theorem dX5_stands_55 : decode cX5_stands 55 = .ok (.iconst 0, 1) := by decide +kernel
theorem dX5_stands_56 : decode cX5_stands 56 = .ok (.iadd, 1) := by decide +kernel
theorem dX5_stands_57 : decode cX5_stands 57 = .ok (.iconst 0, 1) := by decide +kernel
theorem dX5_stands_58 : decode cX5_stands 58 = .ok (.sipush 999, 3) := by decide +kernel
theorem dX5_stands_61 : decode cX5_stands 61 = .ok (.invokestatic 49, 3) := by decide +kernel
theorem dX5_stands_64 : decode cX5_stands 64 = .ok (.invokevirtual 66, 3) := by decide +kernel
theorem dX5_stands_67 : decode cX5_stands 67 = .ok (.iload_n 2, 1) := by decide +kernel
theorem dX5_stands_68 : decode cX5_stands 68 = .ok (.ifCond .eq 23, 3) := by decide +kernel
theorem dX5_stands_71 : decode cX5_stands 71 = .ok (.aload_n 0, 1) := by decide +kernel
theorem dX5_stands_72 : decode cX5_stands 72 = .ok (.iload_n 1, 1) := by decide +kernel
theorem dX5_stands_73 : decode cX5_stands 73 = .ok (.iconst 1, 1) := by decide +kernel
theorem dX5_stands_74 : decode cX5_stands 74 = .ok (.invokevirtual 45, 3) := by decide +kernel
theorem dX5_stands_77 : decode cX5_stands 77 = .ok (.ifCond .ne 14, 3) := by decide +kernel
theorem dX5_stands_80 : decode cX5_stands 80 = .ok (.aload_n 0, 1) := by decide +kernel
theorem dX5_stands_81 : decode cX5_stands 81 = .ok (.iload_n 1, 1) := by decide +kernel
theorem dX5_stands_82 : decode cX5_stands 82 = .ok (.iconst 3, 1) := by decide +kernel
theorem dX5_stands_83 : decode cX5_stands 83 = .ok (.bipush 99, 2) := by decide +kernel
theorem dX5_stands_85 : decode cX5_stands 85 = .ok (.invokevirtual 66, 3) := by decide +kernel
theorem dX5_stands_88 : decode cX5_stands 88 = .ok (.goto 27, 3) := by decide +kernel
theorem dX5_stands_91 : decode cX5_stands 91 = .ok (.aload_n 0, 1) := by decide +kernel
theorem dX5_stands_92 : decode cX5_stands 92 = .ok (.getfield 9, 3) := by decide +kernel
theorem dX5_stands_95 : decode cX5_stands 95 = .ok (.iconst 2, 1) := by decide +kernel
theorem dX5_stands_96 : decode cX5_stands 96 = .ok (.iaload, 1) := by decide +kernel
theorem dX5_stands_97 : decode cX5_stands 97 = .ok (.ifCond .gt 13, 3) := by decide +kernel
theorem dX5_stands_100 : decode cX5_stands 100 = .ok (.aload_n 0, 1) := by decide +kernel
theorem dX5_stands_101 : decode cX5_stands 101 = .ok (.iload_n 1, 1) := by decide +kernel
theorem dX5_stands_102 : decode cX5_stands 102 = .ok (.iconst 1, 1) := by decide +kernel
theorem dX5_stands_103 : decode cX5_stands 103 = .ok (.invokevirtual 45, 3) := by decide +kernel
theorem dX5_stands_106 : decode cX5_stands 106 = .ok (.iconst 1, 1) := by decide +kernel
theorem dX5_stands_107 : decode cX5_stands 107 = .ok (.if_icmp .ne 8, 3) := by decide +kernel
theorem dX5_stands_110 : decode cX5_stands 110 = .ok (.aload_n 0, 1) := by decide +kernel
theorem dX5_stands_111 : decode cX5_stands 111 = .ok (.iload_n 1, 1) := by decide +kernel
theorem dX5_stands_112 : decode cX5_stands 112 = .ok (.invokevirtual 100, 3) := by decide +kernel
theorem dX5_stands_115 : decode cX5_stands 115 = .ok (.return_, 1) := by decide +kernel
set_option maxRecDepth 20000 in
theorem ggX5_goes_X5_it : GoodIn wsX5_goes wsX5_it := goodIn_r _ [6, 1, 38, 39, 40, 41, 42, 43, 44, 45, 46, 47, 48, 49, 50, 51, 52] (by decide +kernel) (by decide +kernel)
set_option maxRecDepth 20000 in
theorem gX5_goes_X5_it : GoodIn wsX5_goes (wsV RX5 45 RX5 yX5_it wsX5_it) := goodIn_app (goodIn_of _ (by decide +kernel)) ggX5_goes_X5_it
set_option maxRecDepth 20000 in
theorem ggX5_goes_X5_goesBy : GoodIn wsX5_goes wsX5_goesBy := goodIn_r _ [10, 2, 3, 4, 5, 6, 1, 11, 12, 13, 38, 39, 40, 41, 42, 43, 44, 45, 46, 47, 48, 49, 50, 51, 52] (by decide +kernel) (by decide +kernel)
set_option maxRecDepth 20000 in
theorem gX5_goes_X5_goesBy : GoodIn wsX5_goes (wsV RX5 79 RX5 yX5_goesBy wsX5_goesBy) := goodIn_app (goodIn_of _ (by decide +kernel)) ggX5_goes_X5_goesBy
set_option maxRecDepth 20000 in
theorem ggX5_goes_X5_held : GoodIn wsX5_goes wsX5_held := goodIn_r _ [13] (by decide +kernel) (by decide +kernel)
set_option maxRecDepth 20000 in
theorem gX5_goes_X5_held : GoodIn wsX5_goes (va_wsS RX5 49 yX5_held wsX5_held) := goodIn_app (goodIn_of _ (by decide +kernel)) ggX5_goes_X5_held
set_option maxRecDepth 20000 in
theorem ggX5_goes_X5_put : GoodIn wsX5_goes wsX5_put := goodIn_r _ [17, 1, 38, 39, 40, 41, 42, 43, 44, 45, 46, 47, 48, 49, 50, 51, 52] (by decide +kernel) (by decide +kernel)
set_option maxRecDepth 20000 in
theorem gX5_goes_X5_put : GoodIn wsX5_goes (wsV RX5 66 RX5 yX5_put wsX5_put) := goodIn_app (goodIn_of _ (by decide +kernel)) ggX5_goes_X5_put
set_option maxRecDepth 20000 in
theorem ggX5_goes_X5_stands : GoodIn wsX5_goes wsX5_stands := goodIn_r _ [21, 1, 22, 23, 24, 5, 25, 2, 3, 4, 6, 11, 12, 13, 14, 15, 16, 17, 26, 27, 28, 29, 30, 31, 32, 33, 34, 35, 36, 37, 38, 39, 40, 41, 42, 43, 44, 45, 46, 47, 48, 49, 50, 51, 52] (by decide +kernel) (by decide +kernel)
set_option maxRecDepth 20000 in
theorem gX5_goes_X5_stands : GoodIn wsX5_goes (wsV RX5 104 RX5 yX5_stands wsX5_stands) := goodIn_app (goodIn_of _ (by decide +kernel)) ggX5_goes_X5_stands
theorem dX5_goes_0 : decode cX5_goes 0 = .ok (.aload_n 0, 1) := by decide +kernel
theorem dX5_goes_1 : decode cX5_goes 1 = .ok (.getfield 9, 3) := by decide +kernel
theorem dX5_goes_4 : decode cX5_goes 4 = .ok (.iconst 2, 1) := by decide +kernel
theorem dX5_goes_5 : decode cX5_goes 5 = .ok (.iaload, 1) := by decide +kernel
theorem dX5_goes_6 : decode cX5_goes 6 = .ok (.ifCond .le 7, 3) := by decide +kernel
theorem dX5_goes_9 : decode cX5_goes 9 = .ok (.iconst 1, 1) := by decide +kernel
theorem dX5_goes_10 : decode cX5_goes 10 = .ok (.goto 4, 3) := by decide +kernel
theorem dX5_goes_13 : decode cX5_goes 13 = .ok (.iconst 0, 1) := by decide +kernel
theorem dX5_goes_14 : decode cX5_goes 14 = .ok (.istore_n 1, 1) := by decide +kernel
theorem dX5_goes_15 : decode cX5_goes 15 = .ok (.iconst 0, 1) := by decide +kernel
theorem dX5_goes_16 : decode cX5_goes 16 = .ok (.istore_n 2, 1) := by decide +kernel
theorem dX5_goes_17 : decode cX5_goes 17 = .ok (.iload_n 2, 1) := by decide +kernel
theorem dX5_goes_18 : decode cX5_goes 18 = .ok (.aload_n 0, 1) := by decide +kernel
theorem dX5_goes_19 : decode cX5_goes 19 = .ok (.getfield 9, 3) := by decide +kernel
theorem dX5_goes_22 : decode cX5_goes 22 = .ok (.iconst 4, 1) := by decide +kernel
theorem dX5_goes_23 : decode cX5_goes 23 = .ok (.iaload, 1) := by decide +kernel
theorem dX5_goes_24 : decode cX5_goes 24 = .ok (.if_icmp .ge 51, 3) := by decide +kernel
theorem dX5_goes_27 : decode cX5_goes 27 = .ok (.aload_n 0, 1) := by decide +kernel
theorem dX5_goes_28 : decode cX5_goes 28 = .ok (.iload_n 2, 1) := by decide +kernel
theorem dX5_goes_29 : decode cX5_goes 29 = .ok (.iconst 4, 1) := by decide +kernel
theorem dX5_goes_30 : decode cX5_goes 30 = .ok (.invokevirtual 45, 3) := by decide +kernel
theorem dX5_goes_33 : decode cX5_goes 33 = .ok (.iconst 1, 1) := by decide +kernel
theorem dX5_goes_34 : decode cX5_goes 34 = .ok (.if_icmp .ne 7, 3) := by decide +kernel
theorem dX5_goes_37 : decode cX5_goes 37 = .ok (.iconst 0, 1) := by decide +kernel
theorem dX5_goes_38 : decode cX5_goes 38 = .ok (.goto 9, 3) := by decide +kernel
theorem dX5_goes_41 : decode cX5_goes 41 = .ok (.aload_n 0, 1) := by decide +kernel
theorem dX5_goes_42 : decode cX5_goes 42 = .ok (.iload_n 2, 1) := by decide +kernel
theorem dX5_goes_43 : decode cX5_goes 43 = .ok (.iload_n 1, 1) := by decide +kernel
theorem dX5_goes_44 : decode cX5_goes 44 = .ok (.invokevirtual 79, 3) := by decide +kernel
theorem dX5_goes_47 : decode cX5_goes 47 = .ok (.istore_n 3, 1) := by decide +kernel
theorem dX5_goes_48 : decode cX5_goes 48 = .ok (.aload_n 0, 1) := by decide +kernel
theorem dX5_goes_49 : decode cX5_goes 49 = .ok (.iload_n 2, 1) := by decide +kernel
theorem dX5_goes_50 : decode cX5_goes 50 = .ok (.iconst 3, 1) := by decide +kernel
theorem dX5_goes_51 : decode cX5_goes 51 = .ok (.aload_n 0, 1) := by decide +kernel
theorem dX5_goes_52 : decode cX5_goes 52 = .ok (.iload_n 2, 1) := by decide +kernel
theorem dX5_goes_53 : decode cX5_goes 53 = .ok (.iconst 3, 1) := by decide +kernel
theorem dX5_goes_54 : decode cX5_goes 54 = .ok (.invokevirtual 45, 3) := by decide +kernel
theorem dX5_goes_57 : decode cX5_goes 57 = .ok (.iload_n 3, 1) := by decide +kernel
theorem dX5_goes_58 : decode cX5_goes 58 = .ok (.isub, 1) := by decide +kernel
theorem dX5_goes_59 : decode cX5_goes 59 = .ok (.iconst 0, 1) := by decide +kernel
theorem dX5_goes_60 : decode cX5_goes 60 = .ok (.sipush 999, 3) := by decide +kernel
theorem dX5_goes_63 : decode cX5_goes 63 = .ok (.invokestatic 49, 3) := by decide +kernel
theorem dX5_goes_66 : decode cX5_goes 66 = .ok (.invokevirtual 66, 3) := by decide +kernel
theorem dX5_goes_69 : decode cX5_goes 69 = .ok (.iinc 2 1, 3) := by decide +kernel
theorem dX5_goes_72 : decode cX5_goes 72 = .ok (.goto (-55), 3) := by decide +kernel
theorem dX5_goes_75 : decode cX5_goes 75 = .ok (.iconst 0, 1) := by decide +kernel
theorem dX5_goes_76 : decode cX5_goes 76 = .ok (.istore_n 2, 1) := by decide +kernel
theorem dX5_goes_77 : decode cX5_goes 77 = .ok (.iload_n 2, 1) := by decide +kernel
theorem dX5_goes_78 : decode cX5_goes 78 = .ok (.aload_n 0, 1) := by decide +kernel
theorem dX5_goes_79 : decode cX5_goes 79 = .ok (.getfield 9, 3) := by decide +kernel
theorem dX5_goes_82 : decode cX5_goes 82 = .ok (.iconst 4, 1) := by decide +kernel
theorem dX5_goes_83 : decode cX5_goes 83 = .ok (.iaload, 1) := by decide +kernel
theorem dX5_goes_84 : decode cX5_goes 84 = .ok (.if_icmp .ge 32, 3) := by decide +kernel
theorem dX5_goes_87 : decode cX5_goes 87 = .ok (.aload_n 0, 1) := by decide +kernel
theorem dX5_goes_88 : decode cX5_goes 88 = .ok (.iload_n 2, 1) := by decide +kernel
theorem dX5_goes_89 : decode cX5_goes 89 = .ok (.iconst 4, 1) := by decide +kernel
theorem dX5_goes_90 : decode cX5_goes 90 = .ok (.invokevirtual 45, 3) := by decide +kernel
theorem dX5_goes_93 : decode cX5_goes 93 = .ok (.ifCond .ne 17, 3) := by decide +kernel
theorem dX5_goes_96 : decode cX5_goes 96 = .ok (.aload_n 0, 1) := by decide +kernel
theorem dX5_goes_97 : decode cX5_goes 97 = .ok (.iload_n 2, 1) := by decide +kernel
theorem dX5_goes_98 : decode cX5_goes 98 = .ok (.iconst 3, 1) := by decide +kernel
theorem dX5_goes_99 : decode cX5_goes 99 = .ok (.invokevirtual 45, 3) := by decide +kernel
theorem dX5_goes_102 : decode cX5_goes 102 = .ok (.ifCond .ne 8, 3) := by decide +kernel
theorem dX5_goes_105 : decode cX5_goes 105 = .ok (.aload_n 0, 1) := by decide +kernel
theorem dX5_goes_106 : decode cX5_goes 106 = .ok (.iload_n 2, 1) := by decide +kernel
theorem dX5_goes_107 : decode cX5_goes 107 = .ok (.invokevirtual 104, 3) := by decide +kernel
theorem dX5_goes_110 : decode cX5_goes 110 = .ok (.iinc 2 1, 3) := by decide +kernel
theorem dX5_goes_113 : decode cX5_goes 113 = .ok (.goto (-36), 3) := by decide +kernel
theorem dX5_goes_116 : decode cX5_goes 116 = .ok (.aload_n 0, 1) := by decide +kernel
theorem dX5_goes_117 : decode cX5_goes 117 = .ok (.getfield 9, 3) := by decide +kernel
theorem dX5_goes_120 : decode cX5_goes 120 = .ok (.iconst 2, 1) := by decide +kernel
theorem dX5_goes_121 : decode cX5_goes 121 = .ok (.aload_n 0, 1) := by decide +kernel
theorem dX5_goes_122 : decode cX5_goes 122 = .ok (.getfield 9, 3) := by decide +kernel
theorem dX5_goes_125 : decode cX5_goes 125 = .ok (.iconst 2, 1) := by decide +kernel
theorem dX5_goes_126 : decode cX5_goes 126 = .ok (.iaload, 1) := by decide +kernel
theorem dX5_goes_127 : decode cX5_goes 127 = .ok (.iconst 1, 1) := by decide +kernel
theorem dX5_goes_128 : decode cX5_goes 128 = .ok (.isub, 1) := by decide +kernel
theorem dX5_goes_129 : decode cX5_goes 129 = .ok (.iconst 0, 1) := by decide +kernel
theorem dX5_goes_130 : decode cX5_goes 130 = .ok (.bipush 60, 2) := by decide +kernel
theorem dX5_goes_132 : decode cX5_goes 132 = .ok (.invokestatic 49, 3) := by decide +kernel
theorem dX5_goes_135 : decode cX5_goes 135 = .ok (.iastore, 1) := by decide +kernel
theorem dX5_goes_136 : decode cX5_goes 136 = .ok (.aload_n 0, 1) := by decide +kernel
theorem dX5_goes_137 : decode cX5_goes 137 = .ok (.getfield 9, 3) := by decide +kernel
theorem dX5_goes_140 : decode cX5_goes 140 = .ok (.iconst 0, 1) := by decide +kernel
theorem dX5_goes_141 : decode cX5_goes 141 = .ok (.dup2, 1) := by decide +kernel
theorem dX5_goes_142 : decode cX5_goes 142 = .ok (.iaload, 1) := by decide +kernel
theorem dX5_goes_143 : decode cX5_goes 143 = .ok (.iconst 1, 1) := by decide +kernel
theorem dX5_goes_144 : decode cX5_goes 144 = .ok (.iadd, 1) := by decide +kernel
theorem dX5_goes_145 : decode cX5_goes 145 = .ok (.iastore, 1) := by decide +kernel
theorem dX5_goes_146 : decode cX5_goes 146 = .ok (.return_, 1) := by decide +kernel
set_option maxRecDepth 20000 in
theorem ggX5_goesFor_X5_goes : GoodIn wsX5_goesFor wsX5_goes := goodIn_r _ [5, 6, 7, 8, 9, 4, 10, 11, 12, 13, 14, 15, 16, 17, 18, 19, 20, 21, 22, 23, 24, 25, 26, 27, 28, 29, 30, 31, 32, 33, 34, 35, 36, 37, 38, 39, 40, 41, 42, 43, 44, 45, 46, 47, 48, 49, 50, 51, 52, 53, 54, 55, 56] (by decide +kernel) (by decide +kernel)
set_option maxRecDepth 20000 in
theorem gX5_goesFor_X5_goes : GoodIn wsX5_goesFor (wsV RX5 107 RX5 yX5_goes wsX5_goes) := goodIn_app (goodIn_of _ (by decide +kernel)) ggX5_goesFor_X5_goes
theorem dX5_goesFor_0 : decode cX5_goesFor 0 = .ok (.iconst 0, 1) := by decide +kernel
theorem dX5_goesFor_1 : decode cX5_goesFor 1 = .ok (.istore_n 2, 1) := by decide +kernel
theorem dX5_goesFor_2 : decode cX5_goesFor 2 = .ok (.iload_n 2, 1) := by decide +kernel
theorem dX5_goesFor_3 : decode cX5_goesFor 3 = .ok (.iload_n 1, 1) := by decide +kernel
theorem dX5_goesFor_4 : decode cX5_goesFor 4 = .ok (.if_icmp .ge 13, 3) := by decide +kernel
theorem dX5_goesFor_7 : decode cX5_goesFor 7 = .ok (.aload_n 0, 1) := by decide +kernel
theorem dX5_goesFor_8 : decode cX5_goesFor 8 = .ok (.invokevirtual 107, 3) := by decide +kernel
theorem dX5_goesFor_11 : decode cX5_goesFor 11 = .ok (.iinc 2 1, 3) := by decide +kernel
theorem dX5_goesFor_14 : decode cX5_goesFor 14 = .ok (.goto (-12), 3) := by decide +kernel
theorem dX5_goesFor_17 : decode cX5_goesFor 17 = .ok (.return_, 1) := by decide +kernel
set_option maxRecDepth 20000 in
theorem ggX5_seconds_X5_in : GoodIn wsX5_seconds wsX5_in := goodIn_r _ [8] (by decide +kernel) (by decide +kernel)
set_option maxRecDepth 20000 in
theorem gX5_seconds_X5_in : GoodIn wsX5_seconds (va_wsS RX5 41 yX5_in wsX5_in) := goodIn_app (goodIn_of _ (by decide +kernel)) ggX5_seconds_X5_in
set_option maxRecDepth 20000 in
theorem ggX5_seconds_X5_finds : GoodIn wsX5_seconds wsX5_finds := goodIn_r _ [12, 13, 1, 61, 62, 63, 64, 65, 66, 67, 68, 69, 70, 71, 72, 73, 74, 75] (by decide +kernel) (by decide +kernel)
set_option maxRecDepth 20000 in
theorem gX5_seconds_X5_finds : GoodIn wsX5_seconds (wsV RX5 37 RX5 yX5_finds wsX5_finds) := goodIn_app (goodIn_of _ (by decide +kernel)) ggX5_seconds_X5_finds
set_option maxRecDepth 20000 in
theorem ggX5_seconds_X5_goesFor : GoodIn wsX5_seconds wsX5_goesFor := goodIn_r _ [17, 18, 19, 20, 7, 21, 2, 22, 23, 24, 25, 26, 27, 28, 29, 30, 31, 32, 33, 34, 35, 36, 37, 38, 39, 40, 41, 42, 43, 44, 45, 46, 47, 48, 49, 50, 51, 52, 53, 54, 55, 56, 61, 62, 63, 64, 65, 66, 67, 68, 69, 70, 71, 72, 73, 74, 75] (by decide +kernel) (by decide +kernel)
set_option maxRecDepth 20000 in
theorem gX5_seconds_X5_goesFor : GoodIn wsX5_seconds (wsV RX5 112 RX5 yX5_goesFor wsX5_goesFor) := goodIn_app (goodIn_of _ (by decide +kernel)) ggX5_seconds_X5_goesFor
set_option maxRecDepth 20000 in
theorem ggX5_seconds_X5_inside : GoodIn wsX5_seconds wsX5_inside := goodIn_r _ [60, 2, 22, 23, 24, 7, 25, 61, 62, 63, 64, 65, 66, 67, 68, 69, 70, 71, 72, 73, 74, 75] (by decide +kernel) (by decide +kernel)
set_option maxRecDepth 20000 in
theorem gX5_seconds_X5_inside : GoodIn wsX5_seconds (wsV RX5 56 RX5 yX5_inside wsX5_inside) := goodIn_app (goodIn_of _ (by decide +kernel)) ggX5_seconds_X5_inside
theorem dX5_seconds_0 : decode cX5_seconds 0 = .ok (.iload_n 1, 1) := by decide +kernel
theorem dX5_seconds_1 : decode cX5_seconds 1 = .ok (.i2l, 1) := by decide +kernel
theorem dX5_seconds_2 : decode cX5_seconds 2 = .ok (.iconst 1, 1) := by decide +kernel
theorem dX5_seconds_3 : decode cX5_seconds 3 = .ok (.sipush 200, 3) := by decide +kernel
theorem dX5_seconds_6 : decode cX5_seconds 6 = .ok (.invokestatic 41, 3) := by decide +kernel
theorem dX5_seconds_9 : decode cX5_seconds 9 = .ok (.ifCond .ne 10, 3) := by decide +kernel
theorem dX5_seconds_12 : decode cX5_seconds 12 = .ok (.aload_n 0, 1) := by decide +kernel
theorem dX5_seconds_13 : decode cX5_seconds 13 = .ok (.ldc 35, 2) := by decide +kernel
theorem dX5_seconds_15 : decode cX5_seconds 15 = .ok (.invokevirtual 37, 3) := by decide +kernel
theorem dX5_seconds_18 : decode cX5_seconds 18 = .ok (.ireturn, 1) := by decide +kernel
theorem dX5_seconds_19 : decode cX5_seconds 19 = .ok (.aload_n 0, 1) := by decide +kernel
theorem dX5_seconds_20 : decode cX5_seconds 20 = .ok (.getfield 9, 3) := by decide +kernel
theorem dX5_seconds_23 : decode cX5_seconds 23 = .ok (.iconst 0, 1) := by decide +kernel
theorem dX5_seconds_24 : decode cX5_seconds 24 = .ok (.iaload, 1) := by decide +kernel
theorem dX5_seconds_25 : decode cX5_seconds 25 = .ok (.iload_n 1, 1) := by decide +kernel
theorem dX5_seconds_26 : decode cX5_seconds 26 = .ok (.iadd, 1) := by decide +kernel
theorem dX5_seconds_27 : decode cX5_seconds 27 = .ok (.ldc 110, 2) := by decide +kernel
theorem dX5_seconds_29 : decode cX5_seconds 29 = .ok (.if_icmp .le 10, 3) := by decide +kernel
theorem dX5_seconds_32 : decode cX5_seconds 32 = .ok (.aload_n 0, 1) := by decide +kernel
theorem dX5_seconds_33 : decode cX5_seconds 33 = .ok (.ldc 111, 2) := by decide +kernel
theorem dX5_seconds_35 : decode cX5_seconds 35 = .ok (.invokevirtual 37, 3) := by decide +kernel
theorem dX5_seconds_38 : decode cX5_seconds 38 = .ok (.ireturn, 1) := by decide +kernel
theorem dX5_seconds_39 : decode cX5_seconds 39 = .ok (.aload_n 0, 1) := by decide +kernel
theorem dX5_seconds_40 : decode cX5_seconds 40 = .ok (.iload_n 1, 1) := by decide +kernel
theorem dX5_seconds_41 : decode cX5_seconds 41 = .ok (.invokevirtual 112, 3) := by decide +kernel
theorem dX5_seconds_44 : decode cX5_seconds 44 = .ok (.aload_n 0, 1) := by decide +kernel
theorem dX5_seconds_45 : decode cX5_seconds 45 = .ok (.invokevirtual 56, 3) := by decide +kernel
theorem dX5_seconds_48 : decode cX5_seconds 48 = .ok (.ireturn, 1) := by decide +kernel
set_option maxRecDepth 20000 in
theorem ggX5_thinks_X5_copyAll : GoodIn wsX5_thinks wsX5_copyAll := goodIn_r _ [6] (by decide +kernel) (by decide +kernel)
set_option maxRecDepth 20000 in
theorem gX5_thinks_X5_copyAll : GoodIn wsX5_thinks (va_wsS RX5 115 yX5_copyAll wsX5_copyAll) := goodIn_app (goodIn_of _ (by decide +kernel)) ggX5_thinks_X5_copyAll
theorem dX5_thinks_0 : decode cX5_thinks 0 = .ok (.aload_n 0, 1) := by decide +kernel
theorem dX5_thinks_1 : decode cX5_thinks 1 = .ok (.getfield 9, 3) := by decide +kernel
theorem dX5_thinks_4 : decode cX5_thinks 4 = .ok (.aload_n 0, 1) := by decide +kernel
theorem dX5_thinks_5 : decode cX5_thinks 5 = .ok (.getfield 16, 3) := by decide +kernel
theorem dX5_thinks_8 : decode cX5_thinks 8 = .ok (.invokestatic 115, 3) := by decide +kernel
theorem dX5_thinks_11 : decode cX5_thinks 11 = .ok (.return_, 1) := by decide +kernel
set_option maxRecDepth 20000 in
theorem ggX5_putsBack_X5_copyAll : GoodIn wsX5_putsBack wsX5_copyAll := goodIn_r _ [6] (by decide +kernel) (by decide +kernel)
set_option maxRecDepth 20000 in
theorem gX5_putsBack_X5_copyAll : GoodIn wsX5_putsBack (va_wsS RX5 115 yX5_copyAll wsX5_copyAll) := goodIn_app (goodIn_of _ (by decide +kernel)) ggX5_putsBack_X5_copyAll
theorem dX5_putsBack_0 : decode cX5_putsBack 0 = .ok (.aload_n 0, 1) := by decide +kernel
theorem dX5_putsBack_1 : decode cX5_putsBack 1 = .ok (.getfield 16, 3) := by decide +kernel
theorem dX5_putsBack_4 : decode cX5_putsBack 4 = .ok (.aload_n 0, 1) := by decide +kernel
theorem dX5_putsBack_5 : decode cX5_putsBack 5 = .ok (.getfield 9, 3) := by decide +kernel
theorem dX5_putsBack_8 : decode cX5_putsBack 8 = .ok (.invokestatic 115, 3) := by decide +kernel
theorem dX5_putsBack_11 : decode cX5_putsBack 11 = .ok (.return_, 1) := by decide +kernel
set_option maxRecDepth 20000 in
theorem ggX5_on_X5_isPerson : GoodIn wsX5_on wsX5_isPerson := goodIn_r _ [6, 7, 8, 9, 5, 10, 71, 72, 73, 74, 75, 76, 77, 78, 79, 80, 81, 82, 83, 84, 85] (by decide +kernel) (by decide +kernel)
set_option maxRecDepth 20000 in
theorem gX5_on_X5_isPerson : GoodIn wsX5_on (wsV RX5 75 RX5 yX5_isPerson wsX5_isPerson) := goodIn_app (goodIn_of _ (by decide +kernel)) ggX5_on_X5_isPerson
set_option maxRecDepth 20000 in
theorem ggX5_on_X5_in : GoodIn wsX5_on wsX5_in := goodIn_r _ [10] (by decide +kernel) (by decide +kernel)
set_option maxRecDepth 20000 in
theorem gX5_on_X5_in : GoodIn wsX5_on (va_wsS RX5 41 yX5_in wsX5_in) := goodIn_app (goodIn_of _ (by decide +kernel)) ggX5_on_X5_in
set_option maxRecDepth 20000 in
theorem ggX5_on_X5_finds : GoodIn wsX5_on wsX5_finds := goodIn_r _ [14, 15, 1, 71, 72, 73, 74, 75, 76, 77, 78, 79, 80, 81, 82, 83, 84, 85] (by decide +kernel) (by decide +kernel)
set_option maxRecDepth 20000 in
theorem gX5_on_X5_finds : GoodIn wsX5_on (wsV RX5 37 RX5 yX5_finds wsX5_finds) := goodIn_app (goodIn_of _ (by decide +kernel)) ggX5_on_X5_finds
set_option maxRecDepth 20000 in
theorem ggX5_on_X5_thinks : GoodIn wsX5_on wsX5_thinks := goodIn_r _ [19, 7, 20, 21, 22, 5, 23, 71, 72, 73, 74, 75, 76, 77, 78, 79, 80, 81, 82, 83, 84, 85] (by decide +kernel) (by decide +kernel)
set_option maxRecDepth 20000 in
theorem gX5_on_X5_thinks : GoodIn wsX5_on (wsV RX5 119 RX5 yX5_thinks wsX5_thinks) := goodIn_app (goodIn_of _ (by decide +kernel)) ggX5_on_X5_thinks
set_option maxRecDepth 20000 in
theorem ggX5_on_X5_goesFor : GoodIn wsX5_on wsX5_goesFor := goodIn_r _ [27, 28, 29, 30, 5, 31, 7, 32, 33, 34, 35, 36, 37, 38, 39, 40, 41, 42, 43, 44, 45, 46, 47, 48, 49, 50, 51, 52, 53, 54, 55, 56, 57, 58, 59, 60, 61, 62, 63, 64, 65, 66, 71, 72, 73, 74, 75, 76, 77, 78, 79, 80, 81, 82, 83, 84, 85] (by decide +kernel) (by decide +kernel)
set_option maxRecDepth 20000 in
theorem gX5_on_X5_goesFor : GoodIn wsX5_on (wsV RX5 112 RX5 yX5_goesFor wsX5_goesFor) := goodIn_app (goodIn_of _ (by decide +kernel)) ggX5_on_X5_goesFor
set_option maxRecDepth 20000 in
theorem ggX5_on_X5_it : GoodIn wsX5_on wsX5_it := goodIn_r _ [35, 7, 71, 72, 73, 74, 75, 76, 77, 78, 79, 80, 81, 82, 83, 84, 85] (by decide +kernel) (by decide +kernel)
set_option maxRecDepth 20000 in
theorem gX5_on_X5_it : GoodIn wsX5_on (wsV RX5 45 RX5 yX5_it wsX5_it) := goodIn_app (goodIn_of _ (by decide +kernel)) ggX5_on_X5_it
set_option maxRecDepth 20000 in
theorem ggX5_on_X5_putsBack : GoodIn wsX5_on wsX5_putsBack := goodIn_r _ [70, 20, 7, 21, 22, 5, 23, 71, 72, 73, 74, 75, 76, 77, 78, 79, 80, 81, 82, 83, 84, 85] (by decide +kernel) (by decide +kernel)
set_option maxRecDepth 20000 in
theorem gX5_on_X5_putsBack : GoodIn wsX5_on (wsV RX5 122 RX5 yX5_putsBack wsX5_putsBack) := goodIn_app (goodIn_of _ (by decide +kernel)) ggX5_on_X5_putsBack
theorem dX5_on_0 : decode cX5_on 0 = .ok (.aload_n 0, 1) := by decide +kernel
theorem dX5_on_1 : decode cX5_on 1 = .ok (.iload_n 1, 1) := by decide +kernel
theorem dX5_on_2 : decode cX5_on 2 = .ok (.invokevirtual 75, 3) := by decide +kernel
theorem dX5_on_5 : decode cX5_on 5 = .ok (.ifCond .eq 25, 3) := by decide +kernel
theorem dX5_on_8 : decode cX5_on 8 = .ok (.iload_n 2, 1) := by decide +kernel
theorem dX5_on_9 : decode cX5_on 9 = .ok (.i2l, 1) := by decide +kernel
theorem dX5_on_10 : decode cX5_on 10 = .ok (.iconst 0, 1) := by decide +kernel
theorem dX5_on_11 : decode cX5_on 11 = .ok (.sipush 400, 3) := by decide +kernel
theorem dX5_on_14 : decode cX5_on 14 = .ok (.invokestatic 41, 3) := by decide +kernel
theorem dX5_on_17 : decode cX5_on 17 = .ok (.ifCond .eq 13, 3) := by decide +kernel
theorem dX5_on_20 : decode cX5_on 20 = .ok (.iload_n 3, 1) := by decide +kernel
theorem dX5_on_21 : decode cX5_on 21 = .ok (.i2l, 1) := by decide +kernel
theorem dX5_on_22 : decode cX5_on 22 = .ok (.iconst 0, 1) := by decide +kernel
theorem dX5_on_23 : decode cX5_on 23 = .ok (.iconst 2, 1) := by decide +kernel
theorem dX5_on_24 : decode cX5_on 24 = .ok (.invokestatic 41, 3) := by decide +kernel
theorem dX5_on_27 : decode cX5_on 27 = .ok (.ifCond .ne 10, 3) := by decide +kernel
theorem dX5_on_30 : decode cX5_on 30 = .ok (.aload_n 0, 1) := by decide +kernel
theorem dX5_on_31 : decode cX5_on 31 = .ok (.ldc 35, 2) := by decide +kernel
theorem dX5_on_33 : decode cX5_on 33 = .ok (.invokevirtual 37, 3) := by decide +kernel
theorem dX5_on_36 : decode cX5_on 36 = .ok (.ireturn, 1) := by decide +kernel
theorem dX5_on_37 : decode cX5_on 37 = .ok (.aload_n 0, 1) := by decide +kernel
theorem dX5_on_38 : decode cX5_on 38 = .ok (.invokevirtual 119, 3) := by decide +kernel
theorem dX5_on_41 : decode cX5_on 41 = .ok (.aload_n 0, 1) := by decide +kernel
theorem dX5_on_42 : decode cX5_on 42 = .ok (.iload_n 2, 1) := by decide +kernel
theorem dX5_on_43 : decode cX5_on 43 = .ok (.invokevirtual 112, 3) := by decide +kernel
theorem dX5_on_46 : decode cX5_on 46 = .ok (.aload_n 0, 1) := by decide +kernel
theorem dX5_on_47 : decode cX5_on 47 = .ok (.iload_n 1, 1) := by decide +kernel
theorem dX5_on_48 : decode cX5_on 48 = .ok (.iconst 3, 1) := by decide +kernel
theorem dX5_on_49 : decode cX5_on 49 = .ok (.iload_n 3, 1) := by decide +kernel
theorem dX5_on_50 : decode cX5_on 50 = .ok (.iadd, 1) := by decide +kernel
theorem dX5_on_51 : decode cX5_on 51 = .ok (.invokevirtual 45, 3) := by decide +kernel
theorem dX5_on_54 : decode cX5_on 54 = .ok (.istore 4, 2) := by decide +kernel
theorem dX5_on_56 : decode cX5_on 56 = .ok (.aload_n 0, 1) := by decide +kernel
theorem dX5_on_57 : decode cX5_on 57 = .ok (.invokevirtual 122, 3) := by decide +kernel
theorem dX5_on_60 : decode cX5_on 60 = .ok (.iload 4, 2) := by decide +kernel
theorem dX5_on_62 : decode cX5_on 62 = .ok (.ireturn, 1) := by decide +kernel
set_option maxRecDepth 20000 in
theorem ggX5_loose_X5_in : GoodIn wsX5_loose wsX5_in := goodIn_r _ [5] (by decide +kernel) (by decide +kernel)
set_option maxRecDepth 20000 in
theorem gX5_loose_X5_in : GoodIn wsX5_loose (va_wsS RX5 41 yX5_in wsX5_in) := goodIn_app (goodIn_of _ (by decide +kernel)) ggX5_loose_X5_in
set_option maxRecDepth 20000 in
theorem ggX5_loose_X5_finds : GoodIn wsX5_loose wsX5_finds := goodIn_r _ [9, 10, 1, 78, 79, 80, 81, 82, 83, 84, 85, 86, 87, 88, 89, 90, 91, 92] (by decide +kernel) (by decide +kernel)
set_option maxRecDepth 20000 in
theorem gX5_loose_X5_finds : GoodIn wsX5_loose (wsV RX5 37 RX5 yX5_finds wsX5_finds) := goodIn_app (goodIn_of _ (by decide +kernel)) ggX5_loose_X5_finds
set_option maxRecDepth 20000 in
theorem ggX5_loose_X5_thinks : GoodIn wsX5_loose wsX5_thinks := goodIn_r _ [14, 15, 16, 17, 18, 4, 19, 78, 79, 80, 81, 82, 83, 84, 85, 86, 87, 88, 89, 90, 91, 92] (by decide +kernel) (by decide +kernel)
set_option maxRecDepth 20000 in
theorem gX5_loose_X5_thinks : GoodIn wsX5_loose (wsV RX5 119 RX5 yX5_thinks wsX5_thinks) := goodIn_app (goodIn_of _ (by decide +kernel)) ggX5_loose_X5_thinks
set_option maxRecDepth 20000 in
theorem ggX5_loose_X5_looseOn : GoodIn wsX5_loose wsX5_looseOn := goodIn_r _ [23, 24, 25, 26, 4, 27, 28, 29, 30, 31, 15, 32, 33, 34, 35, 36, 37, 38, 39, 40, 41, 42, 43, 44, 45, 46, 47, 48, 49, 50, 51, 52, 53, 54, 55, 56, 57, 58, 59, 60, 61, 62, 63, 64, 65, 66, 67, 68, 69, 70, 71, 72, 73, 74, 75, 76, 77, 16, 17, 18, 19, 78, 79, 80, 81, 82, 83, 84, 85, 86, 87, 88, 89, 90, 91, 92] (by decide +kernel) (by decide +kernel)
set_option maxRecDepth 20000 in
theorem gX5_loose_X5_looseOn : GoodIn wsX5_loose (wsV RX5 125 RX5 yX5_looseOn wsX5_looseOn) := goodIn_app (goodIn_of _ (by decide +kernel)) ggX5_loose_X5_looseOn
theorem dX5_loose_0 : decode cX5_loose 0 = .ok (.iload_n 1, 1) := by decide +kernel
theorem dX5_loose_1 : decode cX5_loose 1 = .ok (.i2l, 1) := by decide +kernel
theorem dX5_loose_2 : decode cX5_loose 2 = .ok (.iconst 0, 1) := by decide +kernel
theorem dX5_loose_3 : decode cX5_loose 3 = .ok (.sipush 400, 3) := by decide +kernel
theorem dX5_loose_6 : decode cX5_loose 6 = .ok (.invokestatic 41, 3) := by decide +kernel
theorem dX5_loose_9 : decode cX5_loose 9 = .ok (.ifCond .ne 10, 3) := by decide +kernel
theorem dX5_loose_12 : decode cX5_loose 12 = .ok (.aload_n 0, 1) := by decide +kernel
theorem dX5_loose_13 : decode cX5_loose 13 = .ok (.ldc 35, 2) := by decide +kernel
theorem dX5_loose_15 : decode cX5_loose 15 = .ok (.invokevirtual 37, 3) := by decide +kernel
theorem dX5_loose_18 : decode cX5_loose 18 = .ok (.ireturn, 1) := by decide +kernel
theorem dX5_loose_19 : decode cX5_loose 19 = .ok (.aload_n 0, 1) := by decide +kernel
theorem dX5_loose_20 : decode cX5_loose 20 = .ok (.invokevirtual 119, 3) := by decide +kernel
theorem dX5_loose_23 : decode cX5_loose 23 = .ok (.aload_n 0, 1) := by decide +kernel
theorem dX5_loose_24 : decode cX5_loose 24 = .ok (.iload_n 1, 1) := by decide +kernel
theorem dX5_loose_25 : decode cX5_loose 25 = .ok (.invokevirtual 125, 3) := by decide +kernel
theorem dX5_loose_28 : decode cX5_loose 28 = .ok (.ireturn, 1) := by decide +kernel
set_option maxRecDepth 20000 in
theorem ggX5_comes_X5_isPerson : GoodIn wsX5_comes wsX5_isPerson := goodIn_r _ [7, 8, 9, 10, 6, 11, 68, 69, 70, 71, 72, 73, 74, 75, 76, 77, 78, 79, 80, 81, 82] (by decide +kernel) (by decide +kernel)
set_option maxRecDepth 20000 in
theorem gX5_comes_X5_isPerson : GoodIn wsX5_comes (wsV RX5 75 RX5 yX5_isPerson wsX5_isPerson) := goodIn_app (goodIn_of _ (by decide +kernel)) ggX5_comes_X5_isPerson
set_option maxRecDepth 20000 in
theorem ggX5_comes_X5_finds : GoodIn wsX5_comes wsX5_finds := goodIn_r _ [15, 16, 1, 68, 69, 70, 71, 72, 73, 74, 75, 76, 77, 78, 79, 80, 81, 82] (by decide +kernel) (by decide +kernel)
set_option maxRecDepth 20000 in
theorem gX5_comes_X5_finds : GoodIn wsX5_comes (wsV RX5 37 RX5 yX5_finds wsX5_finds) := goodIn_app (goodIn_of _ (by decide +kernel)) ggX5_comes_X5_finds
set_option maxRecDepth 20000 in
theorem ggX5_comes_X5_thinks : GoodIn wsX5_comes wsX5_thinks := goodIn_r _ [20, 8, 21, 22, 23, 6, 24, 68, 69, 70, 71, 72, 73, 74, 75, 76, 77, 78, 79, 80, 81, 82] (by decide +kernel) (by decide +kernel)
set_option maxRecDepth 20000 in
theorem gX5_comes_X5_thinks : GoodIn wsX5_comes (wsV RX5 119 RX5 yX5_thinks wsX5_thinks) := goodIn_app (goodIn_of _ (by decide +kernel)) ggX5_comes_X5_thinks
set_option maxRecDepth 20000 in
theorem ggX5_comes_X5_it : GoodIn wsX5_comes wsX5_it := goodIn_r _ [28, 8, 68, 69, 70, 71, 72, 73, 74, 75, 76, 77, 78, 79, 80, 81, 82] (by decide +kernel) (by decide +kernel)
set_option maxRecDepth 20000 in
theorem gX5_comes_X5_it : GoodIn wsX5_comes (wsV RX5 45 RX5 yX5_it wsX5_it) := goodIn_app (goodIn_of _ (by decide +kernel)) ggX5_comes_X5_it
set_option maxRecDepth 20000 in
theorem ggX5_comes_X5_goes : GoodIn wsX5_comes wsX5_goes := goodIn_r _ [32, 8, 25, 26, 27, 6, 28, 33, 34, 35, 36, 37, 38, 39, 40, 41, 42, 43, 44, 45, 46, 47, 48, 49, 50, 51, 52, 53, 54, 55, 56, 57, 58, 59, 60, 61, 62, 63, 68, 69, 70, 71, 72, 73, 74, 75, 76, 77, 78, 79, 80, 81, 82] (by decide +kernel) (by decide +kernel)
set_option maxRecDepth 20000 in
theorem gX5_comes_X5_goes : GoodIn wsX5_comes (wsV RX5 107 RX5 yX5_goes wsX5_goes) := goodIn_app (goodIn_of _ (by decide +kernel)) ggX5_comes_X5_goes
set_option maxRecDepth 20000 in
theorem ggX5_comes_X5_putsBack : GoodIn wsX5_comes wsX5_putsBack := goodIn_r _ [67, 21, 8, 22, 23, 6, 24, 68, 69, 70, 71, 72, 73, 74, 75, 76, 77, 78, 79, 80, 81, 82] (by decide +kernel) (by decide +kernel)
set_option maxRecDepth 20000 in
theorem gX5_comes_X5_putsBack : GoodIn wsX5_comes (wsV RX5 122 RX5 yX5_putsBack wsX5_putsBack) := goodIn_app (goodIn_of _ (by decide +kernel)) ggX5_comes_X5_putsBack
theorem dX5_comes_0 : decode cX5_comes 0 = .ok (.aload_n 0, 1) := by decide +kernel
theorem dX5_comes_1 : decode cX5_comes 1 = .ok (.iload_n 1, 1) := by decide +kernel
theorem dX5_comes_2 : decode cX5_comes 2 = .ok (.invokevirtual 75, 3) := by decide +kernel
theorem dX5_comes_5 : decode cX5_comes 5 = .ok (.ifCond .ne 10, 3) := by decide +kernel
theorem dX5_comes_8 : decode cX5_comes 8 = .ok (.aload_n 0, 1) := by decide +kernel
theorem dX5_comes_9 : decode cX5_comes 9 = .ok (.ldc 35, 2) := by decide +kernel
theorem dX5_comes_11 : decode cX5_comes 11 = .ok (.invokevirtual 37, 3) := by decide +kernel
theorem dX5_comes_14 : decode cX5_comes 14 = .ok (.ireturn, 1) := by decide +kernel
theorem dX5_comes_15 : decode cX5_comes 15 = .ok (.aload_n 0, 1) := by decide +kernel
theorem dX5_comes_16 : decode cX5_comes 16 = .ok (.invokevirtual 119, 3) := by decide +kernel
theorem dX5_comes_19 : decode cX5_comes 19 = .ok (.iconst 0, 1) := by decide +kernel
theorem dX5_comes_20 : decode cX5_comes 20 = .ok (.istore_n 2, 1) := by decide +kernel
theorem dX5_comes_21 : decode cX5_comes 21 = .ok (.iload_n 2, 1) := by decide +kernel
theorem dX5_comes_22 : decode cX5_comes 22 = .ok (.sipush 400, 3) := by decide +kernel
theorem dX5_comes_25 : decode cX5_comes 25 = .ok (.if_icmp .gt 22, 3) := by decide +kernel
theorem dX5_comes_28 : decode cX5_comes 28 = .ok (.aload_n 0, 1) := by decide +kernel
theorem dX5_comes_29 : decode cX5_comes 29 = .ok (.iload_n 1, 1) := by decide +kernel
theorem dX5_comes_30 : decode cX5_comes 30 = .ok (.iconst 4, 1) := by decide +kernel
theorem dX5_comes_31 : decode cX5_comes 31 = .ok (.invokevirtual 45, 3) := by decide +kernel
theorem dX5_comes_34 : decode cX5_comes 34 = .ok (.ifCond .ne 13, 3) := by decide +kernel
theorem dX5_comes_37 : decode cX5_comes 37 = .ok (.aload_n 0, 1) := by decide +kernel
theorem dX5_comes_38 : decode cX5_comes 38 = .ok (.invokevirtual 107, 3) := by decide +kernel
theorem dX5_comes_41 : decode cX5_comes 41 = .ok (.iinc 2 1, 3) := by decide +kernel
theorem dX5_comes_44 : decode cX5_comes 44 = .ok (.goto (-23), 3) := by decide +kernel
theorem dX5_comes_47 : decode cX5_comes 47 = .ok (.aload_n 0, 1) := by decide +kernel
theorem dX5_comes_48 : decode cX5_comes 48 = .ok (.invokevirtual 122, 3) := by decide +kernel
theorem dX5_comes_51 : decode cX5_comes 51 = .ok (.iload_n 2, 1) := by decide +kernel
theorem dX5_comes_52 : decode cX5_comes 52 = .ok (.sipush 400, 3) := by decide +kernel
theorem dX5_comes_55 : decode cX5_comes 55 = .ok (.if_icmp .le 12, 3) := by decide +kernel
theorem dX5_comes_58 : decode cX5_comes 58 = .ok (.aload_n 0, 1) := by decide +kernel
theorem dX5_comes_59 : decode cX5_comes 59 = .ok (.ldc 36, 2) := by decide +kernel
theorem dX5_comes_61 : decode cX5_comes 61 = .ok (.invokevirtual 37, 3) := by decide +kernel
theorem dX5_comes_64 : decode cX5_comes 64 = .ok (.goto 4, 3) := by decide +kernel
theorem dX5_comes_67 : decode cX5_comes 67 = .ok (.iload_n 2, 1) := by decide +kernel
theorem dX5_comes_68 : decode cX5_comes 68 = .ok (.ireturn, 1) := by decide +kernel
set_option maxRecDepth 20000 in
theorem ggX5_shuts_X5_thinks : GoodIn wsX5_shuts wsX5_thinks := goodIn_r _ [7, 1, 8, 9, 10, 6, 11, 61, 62, 63, 64, 65, 66, 67, 68, 69, 70, 71, 72, 73, 74, 75] (by decide +kernel) (by decide +kernel)
set_option maxRecDepth 20000 in
theorem gX5_shuts_X5_thinks : GoodIn wsX5_shuts (wsV RX5 119 RX5 yX5_thinks wsX5_thinks) := goodIn_app (goodIn_of _ (by decide +kernel)) ggX5_shuts_X5_thinks
set_option maxRecDepth 20000 in
theorem ggX5_shuts_X5_goes : GoodIn wsX5_shuts wsX5_goes := goodIn_r _ [15, 1, 16, 17, 18, 6, 19, 20, 21, 22, 23, 24, 25, 26, 27, 28, 29, 30, 31, 32, 33, 34, 35, 36, 37, 38, 39, 40, 41, 42, 43, 44, 45, 46, 47, 48, 49, 50, 61, 62, 63, 64, 65, 66, 67, 68, 69, 70, 71, 72, 73, 74, 75] (by decide +kernel) (by decide +kernel)
set_option maxRecDepth 20000 in
theorem gX5_shuts_X5_goes : GoodIn wsX5_shuts (wsV RX5 107 RX5 yX5_goes wsX5_goes) := goodIn_app (goodIn_of _ (by decide +kernel)) ggX5_shuts_X5_goes
set_option maxRecDepth 20000 in
theorem ggX5_shuts_X5_putsBack : GoodIn wsX5_shuts wsX5_putsBack := goodIn_r _ [54, 8, 1, 9, 10, 6, 11, 61, 62, 63, 64, 65, 66, 67, 68, 69, 70, 71, 72, 73, 74, 75] (by decide +kernel) (by decide +kernel)
set_option maxRecDepth 20000 in
theorem gX5_shuts_X5_putsBack : GoodIn wsX5_shuts (wsV RX5 122 RX5 yX5_putsBack wsX5_putsBack) := goodIn_app (goodIn_of _ (by decide +kernel)) ggX5_shuts_X5_putsBack
set_option maxRecDepth 20000 in
theorem ggX5_shuts_X5_finds : GoodIn wsX5_shuts wsX5_finds := goodIn_r _ [58, 59, 60, 61, 62, 63, 64, 65, 66, 67, 68, 69, 70, 71, 72, 73, 74, 75] (by decide +kernel) (by decide +kernel)
set_option maxRecDepth 20000 in
theorem gX5_shuts_X5_finds : GoodIn wsX5_shuts (wsV RX5 37 RX5 yX5_finds wsX5_finds) := goodIn_app (goodIn_of _ (by decide +kernel)) ggX5_shuts_X5_finds
theorem dX5_shuts_0 : decode cX5_shuts 0 = .ok (.aload_n 0, 1) := by decide +kernel
theorem dX5_shuts_1 : decode cX5_shuts 1 = .ok (.invokevirtual 119, 3) := by decide +kernel
theorem dX5_shuts_4 : decode cX5_shuts 4 = .ok (.iconst 0, 1) := by decide +kernel
theorem dX5_shuts_5 : decode cX5_shuts 5 = .ok (.istore_n 1, 1) := by decide +kernel
theorem dX5_shuts_6 : decode cX5_shuts 6 = .ok (.iload_n 1, 1) := by decide +kernel
theorem dX5_shuts_7 : decode cX5_shuts 7 = .ok (.sipush 400, 3) := by decide +kernel
theorem dX5_shuts_10 : decode cX5_shuts 10 = .ok (.if_icmp .gt 22, 3) := by decide +kernel
theorem dX5_shuts_13 : decode cX5_shuts 13 = .ok (.aload_n 0, 1) := by decide +kernel
theorem dX5_shuts_14 : decode cX5_shuts 14 = .ok (.getfield 9, 3) := by decide +kernel
theorem dX5_shuts_17 : decode cX5_shuts 17 = .ok (.iconst 2, 1) := by decide +kernel
theorem dX5_shuts_18 : decode cX5_shuts 18 = .ok (.iaload, 1) := by decide +kernel
theorem dX5_shuts_19 : decode cX5_shuts 19 = .ok (.ifCond .le 13, 3) := by decide +kernel
theorem dX5_shuts_22 : decode cX5_shuts 22 = .ok (.aload_n 0, 1) := by decide +kernel
theorem dX5_shuts_23 : decode cX5_shuts 23 = .ok (.invokevirtual 107, 3) := by decide +kernel
theorem dX5_shuts_26 : decode cX5_shuts 26 = .ok (.iinc 1 1, 3) := by decide +kernel
theorem dX5_shuts_29 : decode cX5_shuts 29 = .ok (.goto (-23), 3) := by decide +kernel
theorem dX5_shuts_32 : decode cX5_shuts 32 = .ok (.aload_n 0, 1) := by decide +kernel
theorem dX5_shuts_33 : decode cX5_shuts 33 = .ok (.invokevirtual 122, 3) := by decide +kernel
theorem dX5_shuts_36 : decode cX5_shuts 36 = .ok (.iload_n 1, 1) := by decide +kernel
theorem dX5_shuts_37 : decode cX5_shuts 37 = .ok (.sipush 400, 3) := by decide +kernel
theorem dX5_shuts_40 : decode cX5_shuts 40 = .ok (.if_icmp .le 12, 3) := by decide +kernel
theorem dX5_shuts_43 : decode cX5_shuts 43 = .ok (.aload_n 0, 1) := by decide +kernel
theorem dX5_shuts_44 : decode cX5_shuts 44 = .ok (.ldc 36, 2) := by decide +kernel
theorem dX5_shuts_46 : decode cX5_shuts 46 = .ok (.invokevirtual 37, 3) := by decide +kernel
theorem dX5_shuts_49 : decode cX5_shuts 49 = .ok (.goto 4, 3) := by decide +kernel
theorem dX5_shuts_52 : decode cX5_shuts 52 = .ok (.iload_n 1, 1) := by decide +kernel
theorem dX5_shuts_53 : decode cX5_shuts 53 = .ok (.ireturn, 1) := by decide +kernel
set_option maxRecDepth 20000 in
theorem ggX5_all_X5_thinks : GoodIn wsX5_all wsX5_thinks := goodIn_r _ [7, 1, 8, 9, 10, 6, 11, 65, 66, 67, 68, 69, 70, 71, 72, 73, 74, 75, 76, 77, 78, 79] (by decide +kernel) (by decide +kernel)
set_option maxRecDepth 20000 in
theorem gX5_all_X5_thinks : GoodIn wsX5_all (wsV RX5 119 RX5 yX5_thinks wsX5_thinks) := goodIn_app (goodIn_of _ (by decide +kernel)) ggX5_all_X5_thinks
set_option maxRecDepth 20000 in
theorem ggX5_all_X5_inside : GoodIn wsX5_all wsX5_inside := goodIn_r _ [15, 1, 16, 17, 18, 6, 19, 65, 66, 67, 68, 69, 70, 71, 72, 73, 74, 75, 76, 77, 78, 79] (by decide +kernel) (by decide +kernel)
set_option maxRecDepth 20000 in
theorem gX5_all_X5_inside : GoodIn wsX5_all (wsV RX5 56 RX5 yX5_inside wsX5_inside) := goodIn_app (goodIn_of _ (by decide +kernel)) ggX5_all_X5_inside
set_option maxRecDepth 20000 in
theorem ggX5_all_X5_goes : GoodIn wsX5_all wsX5_goes := goodIn_r _ [23, 1, 16, 17, 18, 6, 19, 24, 25, 26, 27, 28, 29, 30, 31, 32, 33, 34, 35, 36, 37, 38, 39, 40, 41, 42, 43, 44, 45, 46, 47, 48, 49, 50, 51, 52, 53, 54, 65, 66, 67, 68, 69, 70, 71, 72, 73, 74, 75, 76, 77, 78, 79] (by decide +kernel) (by decide +kernel)
set_option maxRecDepth 20000 in
theorem gX5_all_X5_goes : GoodIn wsX5_all (wsV RX5 107 RX5 yX5_goes wsX5_goes) := goodIn_app (goodIn_of _ (by decide +kernel)) ggX5_all_X5_goes
set_option maxRecDepth 20000 in
theorem ggX5_all_X5_putsBack : GoodIn wsX5_all wsX5_putsBack := goodIn_r _ [58, 8, 1, 9, 10, 6, 11, 65, 66, 67, 68, 69, 70, 71, 72, 73, 74, 75, 76, 77, 78, 79] (by decide +kernel) (by decide +kernel)
set_option maxRecDepth 20000 in
theorem gX5_all_X5_putsBack : GoodIn wsX5_all (wsV RX5 122 RX5 yX5_putsBack wsX5_putsBack) := goodIn_app (goodIn_of _ (by decide +kernel)) ggX5_all_X5_putsBack
set_option maxRecDepth 20000 in
theorem ggX5_all_X5_finds : GoodIn wsX5_all wsX5_finds := goodIn_r _ [62, 63, 64, 65, 66, 67, 68, 69, 70, 71, 72, 73, 74, 75, 76, 77, 78, 79] (by decide +kernel) (by decide +kernel)
set_option maxRecDepth 20000 in
theorem gX5_all_X5_finds : GoodIn wsX5_all (wsV RX5 37 RX5 yX5_finds wsX5_finds) := goodIn_app (goodIn_of _ (by decide +kernel)) ggX5_all_X5_finds
theorem dX5_all_0 : decode cX5_all 0 = .ok (.aload_n 0, 1) := by decide +kernel
theorem dX5_all_1 : decode cX5_all 1 = .ok (.invokevirtual 119, 3) := by decide +kernel
theorem dX5_all_4 : decode cX5_all 4 = .ok (.iconst 0, 1) := by decide +kernel
theorem dX5_all_5 : decode cX5_all 5 = .ok (.istore_n 1, 1) := by decide +kernel
theorem dX5_all_6 : decode cX5_all 6 = .ok (.iload_n 1, 1) := by decide +kernel
theorem dX5_all_7 : decode cX5_all 7 = .ok (.sipush 400, 3) := by decide +kernel
theorem dX5_all_10 : decode cX5_all 10 = .ok (.if_icmp .gt 30, 3) := by decide +kernel
theorem dX5_all_13 : decode cX5_all 13 = .ok (.aload_n 0, 1) := by decide +kernel
theorem dX5_all_14 : decode cX5_all 14 = .ok (.invokevirtual 56, 3) := by decide +kernel
theorem dX5_all_17 : decode cX5_all 17 = .ok (.iconst 1, 1) := by decide +kernel
theorem dX5_all_18 : decode cX5_all 18 = .ok (.aload_n 0, 1) := by decide +kernel
theorem dX5_all_19 : decode cX5_all 19 = .ok (.getfield 9, 3) := by decide +kernel
theorem dX5_all_22 : decode cX5_all 22 = .ok (.iconst 4, 1) := by decide +kernel
theorem dX5_all_23 : decode cX5_all 23 = .ok (.iaload, 1) := by decide +kernel
theorem dX5_all_24 : decode cX5_all 24 = .ok (.ishl, 1) := by decide +kernel
theorem dX5_all_25 : decode cX5_all 25 = .ok (.iconst 1, 1) := by decide +kernel
theorem dX5_all_26 : decode cX5_all 26 = .ok (.isub, 1) := by decide +kernel
theorem dX5_all_27 : decode cX5_all 27 = .ok (.if_icmp .eq 13, 3) := by decide +kernel
theorem dX5_all_30 : decode cX5_all 30 = .ok (.aload_n 0, 1) := by decide +kernel
theorem dX5_all_31 : decode cX5_all 31 = .ok (.invokevirtual 107, 3) := by decide +kernel
theorem dX5_all_34 : decode cX5_all 34 = .ok (.iinc 1 1, 3) := by decide +kernel
theorem dX5_all_37 : decode cX5_all 37 = .ok (.goto (-31), 3) := by decide +kernel
theorem dX5_all_40 : decode cX5_all 40 = .ok (.aload_n 0, 1) := by decide +kernel
theorem dX5_all_41 : decode cX5_all 41 = .ok (.invokevirtual 122, 3) := by decide +kernel
theorem dX5_all_44 : decode cX5_all 44 = .ok (.iload_n 1, 1) := by decide +kernel
theorem dX5_all_45 : decode cX5_all 45 = .ok (.sipush 400, 3) := by decide +kernel
theorem dX5_all_48 : decode cX5_all 48 = .ok (.if_icmp .le 12, 3) := by decide +kernel
theorem dX5_all_51 : decode cX5_all 51 = .ok (.aload_n 0, 1) := by decide +kernel
theorem dX5_all_52 : decode cX5_all 52 = .ok (.ldc 36, 2) := by decide +kernel
theorem dX5_all_54 : decode cX5_all 54 = .ok (.invokevirtual 37, 3) := by decide +kernel
theorem dX5_all_57 : decode cX5_all 57 = .ok (.goto 4, 3) := by decide +kernel
theorem dX5_all_60 : decode cX5_all 60 = .ok (.iload_n 1, 1) := by decide +kernel
theorem dX5_all_61 : decode cX5_all 61 = .ok (.ireturn, 1) := by decide +kernel
set_option maxRecDepth 20000 in
theorem ggX5_looseOn_X5_goesFor : GoodIn wsX5_looseOn wsX5_goesFor := goodIn_r _ [5, 6, 7, 8, 4, 9, 10, 11, 12, 13, 14, 15, 16, 17, 18, 19, 20, 21, 22, 23, 24, 25, 26, 27, 28, 29, 30, 31, 32, 33, 34, 35, 36, 37, 38, 39, 40, 41, 42, 43, 44, 45, 61, 62, 63, 64, 65, 66, 67, 68, 69, 70, 71, 72, 73, 74, 75] (by decide +kernel) (by decide +kernel)
set_option maxRecDepth 20000 in
theorem gX5_looseOn_X5_goesFor : GoodIn wsX5_looseOn (wsV RX5 112 RX5 yX5_goesFor wsX5_goesFor) := goodIn_app (goodIn_of _ (by decide +kernel)) ggX5_looseOn_X5_goesFor
set_option maxRecDepth 20000 in
theorem ggX5_looseOn_X5_looseOnes : GoodIn wsX5_looseOn wsX5_looseOnes := goodIn_r _ [49, 10, 11, 12, 13, 4, 14, 61, 62, 63, 64, 65, 66, 67, 68, 69, 70, 71, 72, 73, 74, 75] (by decide +kernel) (by decide +kernel)
set_option maxRecDepth 20000 in
theorem gX5_looseOn_X5_looseOnes : GoodIn wsX5_looseOn (wsV RX5 60 RX5 yX5_looseOnes wsX5_looseOnes) := goodIn_app (goodIn_of _ (by decide +kernel)) ggX5_looseOn_X5_looseOnes
set_option maxRecDepth 20000 in
theorem ggX5_looseOn_X5_bits : GoodIn wsX5_looseOn wsX5_bits := goodIn_r _ [52] (by decide +kernel) (by decide +kernel)
set_option maxRecDepth 20000 in
theorem gX5_looseOn_X5_bits : GoodIn wsX5_looseOn (va_wsS RX5 128 yX5_bits wsX5_bits) := goodIn_app (goodIn_of _ (by decide +kernel)) ggX5_looseOn_X5_bits
set_option maxRecDepth 20000 in
theorem ggX5_looseOn_X5_putsBack : GoodIn wsX5_looseOn wsX5_putsBack := goodIn_r _ [56, 57, 10, 58, 59, 4, 60, 61, 62, 63, 64, 65, 66, 67, 68, 69, 70, 71, 72, 73, 74, 75] (by decide +kernel) (by decide +kernel)
set_option maxRecDepth 20000 in
theorem gX5_looseOn_X5_putsBack : GoodIn wsX5_looseOn (wsV RX5 122 RX5 yX5_putsBack wsX5_putsBack) := goodIn_app (goodIn_of _ (by decide +kernel)) ggX5_looseOn_X5_putsBack
theorem dX5_looseOn_0 : decode cX5_looseOn 0 = .ok (.aload_n 0, 1) := by decide +kernel
theorem dX5_looseOn_1 : decode cX5_looseOn 1 = .ok (.iload_n 1, 1) := by decide +kernel
theorem dX5_looseOn_2 : decode cX5_looseOn 2 = .ok (.invokevirtual 112, 3) := by decide +kernel
theorem dX5_looseOn_5 : decode cX5_looseOn 5 = .ok (.aload_n 0, 1) := by decide +kernel
theorem dX5_looseOn_6 : decode cX5_looseOn 6 = .ok (.invokevirtual 60, 3) := by decide +kernel
theorem dX5_looseOn_9 : decode cX5_looseOn 9 = .ok (.invokestatic 128, 3) := by decide +kernel
theorem dX5_looseOn_12 : decode cX5_looseOn 12 = .ok (.istore_n 2, 1) := by decide +kernel
theorem dX5_looseOn_13 : decode cX5_looseOn 13 = .ok (.aload_n 0, 1) := by decide +kernel
theorem dX5_looseOn_14 : decode cX5_looseOn 14 = .ok (.invokevirtual 122, 3) := by decide +kernel
theorem dX5_looseOn_17 : decode cX5_looseOn 17 = .ok (.iload_n 2, 1) := by decide +kernel
theorem dX5_looseOn_18 : decode cX5_looseOn 18 = .ok (.ireturn, 1) := by decide +kernel
set_option maxRecDepth 20000 in
theorem ggX5_isInOn_X5_goesFor : GoodIn wsX5_isInOn wsX5_goesFor := goodIn_r _ [5, 6, 7, 8, 4, 9, 10, 11, 12, 13, 14, 15, 16, 17, 18, 19, 20, 21, 22, 23, 24, 25, 26, 27, 28, 29, 30, 31, 32, 33, 34, 35, 36, 37, 38, 39, 40, 41, 42, 43, 44, 45, 54, 55, 56, 57, 58, 59, 60, 61, 62, 63, 64, 65, 66, 67, 68] (by decide +kernel) (by decide +kernel)
set_option maxRecDepth 20000 in
theorem gX5_isInOn_X5_goesFor : GoodIn wsX5_isInOn (wsV RX5 112 RX5 yX5_goesFor wsX5_goesFor) := goodIn_app (goodIn_of _ (by decide +kernel)) ggX5_isInOn_X5_goesFor
set_option maxRecDepth 20000 in
theorem ggX5_isInOn_X5_it : GoodIn wsX5_isInOn wsX5_it := goodIn_r _ [14, 10, 54, 55, 56, 57, 58, 59, 60, 61, 62, 63, 64, 65, 66, 67, 68] (by decide +kernel) (by decide +kernel)
set_option maxRecDepth 20000 in
theorem gX5_isInOn_X5_it : GoodIn wsX5_isInOn (wsV RX5 45 RX5 yX5_it wsX5_it) := goodIn_app (goodIn_of _ (by decide +kernel)) ggX5_isInOn_X5_it
set_option maxRecDepth 20000 in
theorem ggX5_isInOn_X5_putsBack : GoodIn wsX5_isInOn wsX5_putsBack := goodIn_r _ [49, 50, 10, 51, 52, 4, 53, 54, 55, 56, 57, 58, 59, 60, 61, 62, 63, 64, 65, 66, 67, 68] (by decide +kernel) (by decide +kernel)
set_option maxRecDepth 20000 in
theorem gX5_isInOn_X5_putsBack : GoodIn wsX5_isInOn (wsV RX5 122 RX5 yX5_putsBack wsX5_putsBack) := goodIn_app (goodIn_of _ (by decide +kernel)) ggX5_isInOn_X5_putsBack
theorem dX5_isInOn_0 : decode cX5_isInOn 0 = .ok (.aload_n 0, 1) := by decide +kernel
theorem dX5_isInOn_1 : decode cX5_isInOn 1 = .ok (.iload_n 2, 1) := by decide +kernel
theorem dX5_isInOn_2 : decode cX5_isInOn 2 = .ok (.invokevirtual 112, 3) := by decide +kernel
theorem dX5_isInOn_5 : decode cX5_isInOn 5 = .ok (.aload_n 0, 1) := by decide +kernel
theorem dX5_isInOn_6 : decode cX5_isInOn 6 = .ok (.iload_n 1, 1) := by decide +kernel
theorem dX5_isInOn_7 : decode cX5_isInOn 7 = .ok (.iconst 4, 1) := by decide +kernel
theorem dX5_isInOn_8 : decode cX5_isInOn 8 = .ok (.invokevirtual 45, 3) := by decide +kernel
theorem dX5_isInOn_11 : decode cX5_isInOn 11 = .ok (.iconst 1, 1) := by decide +kernel
theorem dX5_isInOn_12 : decode cX5_isInOn 12 = .ok (.if_icmp .ne 7, 3) := by decide +kernel
theorem dX5_isInOn_15 : decode cX5_isInOn 15 = .ok (.iconst 1, 1) := by decide +kernel
theorem dX5_isInOn_16 : decode cX5_isInOn 16 = .ok (.goto 4, 3) := by decide +kernel
theorem dX5_isInOn_19 : decode cX5_isInOn 19 = .ok (.iconst 0, 1) := by decide +kernel
theorem dX5_isInOn_20 : decode cX5_isInOn 20 = .ok (.istore_n 3, 1) := by decide +kernel
theorem dX5_isInOn_21 : decode cX5_isInOn 21 = .ok (.aload_n 0, 1) := by decide +kernel
theorem dX5_isInOn_22 : decode cX5_isInOn 22 = .ok (.invokevirtual 122, 3) := by decide +kernel
theorem dX5_isInOn_25 : decode cX5_isInOn 25 = .ok (.iload_n 3, 1) := by decide +kernel
theorem dX5_isInOn_26 : decode cX5_isInOn 26 = .ok (.ireturn, 1) := by decide +kernel
set_option maxRecDepth 20000 in
theorem ggX5_care_X5_in : GoodIn wsX5_care wsX5_in := goodIn_r _ [6] (by decide +kernel) (by decide +kernel)
set_option maxRecDepth 20000 in
theorem gX5_care_X5_in : GoodIn wsX5_care (va_wsS RX5 41 yX5_in wsX5_in) := goodIn_app (goodIn_of _ (by decide +kernel)) ggX5_care_X5_in
set_option maxRecDepth 20000 in
theorem ggX5_care_X5_finds : GoodIn wsX5_care wsX5_finds := goodIn_r _ [10, 11, 1, 83, 84, 85, 86, 87, 88, 89, 90, 91, 92, 93, 94, 95, 96, 97] (by decide +kernel) (by decide +kernel)
set_option maxRecDepth 20000 in
theorem gX5_care_X5_finds : GoodIn wsX5_care (wsV RX5 37 RX5 yX5_finds wsX5_finds) := goodIn_app (goodIn_of _ (by decide +kernel)) ggX5_care_X5_finds
set_option maxRecDepth 20000 in
theorem ggX5_care_X5_thinks : GoodIn wsX5_care wsX5_thinks := goodIn_r _ [15, 2, 16, 17, 18, 5, 19, 83, 84, 85, 86, 87, 88, 89, 90, 91, 92, 93, 94, 95, 96, 97] (by decide +kernel) (by decide +kernel)
set_option maxRecDepth 20000 in
theorem gX5_care_X5_thinks : GoodIn wsX5_care (wsV RX5 119 RX5 yX5_thinks wsX5_thinks) := goodIn_app (goodIn_of _ (by decide +kernel)) ggX5_care_X5_thinks
set_option maxRecDepth 20000 in
theorem ggX5_care_X5_looseOnes : GoodIn wsX5_care wsX5_looseOnes := goodIn_r _ [23, 2, 24, 25, 26, 5, 27, 83, 84, 85, 86, 87, 88, 89, 90, 91, 92, 93, 94, 95, 96, 97] (by decide +kernel) (by decide +kernel)
set_option maxRecDepth 20000 in
theorem gX5_care_X5_looseOnes : GoodIn wsX5_care (wsV RX5 60 RX5 yX5_looseOnes wsX5_looseOnes) := goodIn_app (goodIn_of _ (by decide +kernel)) ggX5_care_X5_looseOnes
set_option maxRecDepth 20000 in
theorem ggX5_care_X5_bits : GoodIn wsX5_care wsX5_bits := goodIn_r _ [30] (by decide +kernel) (by decide +kernel)
set_option maxRecDepth 20000 in
theorem gX5_care_X5_bits : GoodIn wsX5_care (va_wsS RX5 128 yX5_bits wsX5_bits) := goodIn_app (goodIn_of _ (by decide +kernel)) ggX5_care_X5_bits
set_option maxRecDepth 20000 in
theorem ggX5_care_X5_looseOn : GoodIn wsX5_care wsX5_looseOn := goodIn_r _ [34, 35, 36, 37, 5, 38, 39, 40, 41, 42, 2, 24, 25, 26, 27, 43, 44, 45, 46, 47, 48, 49, 50, 51, 52, 53, 54, 55, 56, 57, 58, 59, 60, 61, 62, 63, 64, 65, 66, 67, 68, 69, 70, 71, 72, 73, 20, 21, 22, 23, 28, 29, 30, 74, 75, 76, 77, 16, 17, 18, 19, 83, 84, 85, 86, 87, 88, 89, 90, 91, 92, 93, 94, 95, 96, 97] (by decide +kernel) (by decide +kernel)
set_option maxRecDepth 20000 in
theorem gX5_care_X5_looseOn : GoodIn wsX5_care (wsV RX5 125 RX5 yX5_looseOn wsX5_looseOn) := goodIn_app (goodIn_of _ (by decide +kernel)) ggX5_care_X5_looseOn
set_option maxRecDepth 20000 in
theorem ggX5_care_X5_orNone : GoodIn wsX5_care wsX5_orNone := goodIn_r _ [81, 82, 7, 8, 9, 5, 10, 11, 1, 83, 84, 85, 86, 87, 88, 89, 90, 91, 92, 93, 94, 95, 96, 97] (by decide +kernel) (by decide +kernel)
set_option maxRecDepth 20000 in
theorem gX5_care_X5_orNone : GoodIn wsX5_care (wsV RX5 131 RX5 yX5_orNone wsX5_orNone) := goodIn_app (goodIn_of _ (by decide +kernel)) ggX5_care_X5_orNone
theorem dX5_care_0 : decode cX5_care 0 = .ok (.iload_n 1, 1) := by decide +kernel
theorem dX5_care_1 : decode cX5_care 1 = .ok (.i2l, 1) := by decide +kernel
theorem dX5_care_2 : decode cX5_care 2 = .ok (.iconst 1, 1) := by decide +kernel
theorem dX5_care_3 : decode cX5_care 3 = .ok (.bipush 100, 2) := by decide +kernel
theorem dX5_care_5 : decode cX5_care 5 = .ok (.invokestatic 41, 3) := by decide +kernel
theorem dX5_care_8 : decode cX5_care 8 = .ok (.ifCond .ne 10, 3) := by decide +kernel
theorem dX5_care_11 : decode cX5_care 11 = .ok (.aload_n 0, 1) := by decide +kernel
theorem dX5_care_12 : decode cX5_care 12 = .ok (.ldc 35, 2) := by decide +kernel
theorem dX5_care_14 : decode cX5_care 14 = .ok (.invokevirtual 37, 3) := by decide +kernel
theorem dX5_care_17 : decode cX5_care 17 = .ok (.ireturn, 1) := by decide +kernel
theorem dX5_care_18 : decode cX5_care 18 = .ok (.aload_n 0, 1) := by decide +kernel
theorem dX5_care_19 : decode cX5_care 19 = .ok (.invokevirtual 119, 3) := by decide +kernel
theorem dX5_care_22 : decode cX5_care 22 = .ok (.aload_n 0, 1) := by decide +kernel
theorem dX5_care_23 : decode cX5_care 23 = .ok (.invokevirtual 60, 3) := by decide +kernel
theorem dX5_care_26 : decode cX5_care 26 = .ok (.invokestatic 128, 3) := by decide +kernel
theorem dX5_care_29 : decode cX5_care 29 = .ok (.istore_n 2, 1) := by decide +kernel
theorem dX5_care_30 : decode cX5_care 30 = .ok (.iconst (-1), 1) := by decide +kernel
theorem dX5_care_31 : decode cX5_care 31 = .ok (.istore_n 3, 1) := by decide +kernel
theorem dX5_care_32 : decode cX5_care 32 = .ok (.iconst 0, 1) := by decide +kernel
theorem dX5_care_33 : decode cX5_care 33 = .ok (.istore 4, 2) := by decide +kernel
theorem dX5_care_35 : decode cX5_care 35 = .ok (.iload 4, 2) := by decide +kernel
theorem dX5_care_37 : decode cX5_care 37 = .ok (.bipush 99, 2) := by decide +kernel
theorem dX5_care_39 : decode cX5_care 39 = .ok (.if_icmp .gt 37, 3) := by decide +kernel
theorem dX5_care_42 : decode cX5_care 42 = .ok (.iload_n 3, 1) := by decide +kernel
theorem dX5_care_43 : decode cX5_care 43 = .ok (.ifCond .ge 33, 3) := by decide +kernel
theorem dX5_care_46 : decode cX5_care 46 = .ok (.aload_n 0, 1) := by decide +kernel
theorem dX5_care_47 : decode cX5_care 47 = .ok (.getfield 9, 3) := by decide +kernel
theorem dX5_care_50 : decode cX5_care 50 = .ok (.iconst 1, 1) := by decide +kernel
theorem dX5_care_51 : decode cX5_care 51 = .ok (.iload 4, 2) := by decide +kernel
theorem dX5_care_53 : decode cX5_care 53 = .ok (.iastore, 1) := by decide +kernel
theorem dX5_care_54 : decode cX5_care 54 = .ok (.aload_n 0, 1) := by decide +kernel
theorem dX5_care_55 : decode cX5_care 55 = .ok (.iload_n 1, 1) := by decide +kernel
theorem dX5_care_56 : decode cX5_care 56 = .ok (.invokevirtual 125, 3) := by decide +kernel
theorem dX5_care_59 : decode cX5_care 59 = .ok (.iload_n 2, 1) := by decide +kernel
theorem dX5_care_60 : decode cX5_care 60 = .ok (.if_icmp .gt 8, 3) := by decide +kernel
theorem dX5_care_63 : decode cX5_care 63 = .ok (.iload 4, 2) := by decide +kernel
theorem dX5_care_65 : decode cX5_care 65 = .ok (.goto 4, 3) := by decide +kernel
theorem dX5_care_68 : decode cX5_care 68 = .ok (.iconst (-1), 1) := by decide +kernel
theorem dX5_care_69 : decode cX5_care 69 = .ok (.istore_n 3, 1) := by decide +kernel
theorem dX5_care_70 : decode cX5_care 70 = .ok (.iinc 4 1, 3) := by decide +kernel
theorem dX5_care_73 : decode cX5_care 73 = .ok (.goto (-38), 3) := by decide +kernel
theorem dX5_care_76 : decode cX5_care 76 = .ok (.aload_n 0, 1) := by decide +kernel
theorem dX5_care_77 : decode cX5_care 77 = .ok (.iload_n 3, 1) := by decide +kernel
theorem dX5_care_78 : decode cX5_care 78 = .ok (.invokevirtual 131, 3) := by decide +kernel
theorem dX5_care_81 : decode cX5_care 81 = .ok (.ireturn, 1) := by decide +kernel
set_option maxRecDepth 20000 in
theorem ggX5_kind_X5_isPerson : GoodIn wsX5_kind wsX5_isPerson := goodIn_r _ [6, 7, 8, 9, 5, 10, 82, 83, 84, 85, 86, 87, 88, 89, 90, 91, 92, 93, 94, 95, 96] (by decide +kernel) (by decide +kernel)
set_option maxRecDepth 20000 in
theorem gX5_kind_X5_isPerson : GoodIn wsX5_kind (wsV RX5 75 RX5 yX5_isPerson wsX5_isPerson) := goodIn_app (goodIn_of _ (by decide +kernel)) ggX5_kind_X5_isPerson
set_option maxRecDepth 20000 in
theorem ggX5_kind_X5_in : GoodIn wsX5_kind wsX5_in := goodIn_r _ [10] (by decide +kernel) (by decide +kernel)
set_option maxRecDepth 20000 in
theorem gX5_kind_X5_in : GoodIn wsX5_kind (va_wsS RX5 41 yX5_in wsX5_in) := goodIn_app (goodIn_of _ (by decide +kernel)) ggX5_kind_X5_in
set_option maxRecDepth 20000 in
theorem ggX5_kind_X5_finds : GoodIn wsX5_kind wsX5_finds := goodIn_r _ [14, 15, 1, 82, 83, 84, 85, 86, 87, 88, 89, 90, 91, 92, 93, 94, 95, 96] (by decide +kernel) (by decide +kernel)
set_option maxRecDepth 20000 in
theorem gX5_kind_X5_finds : GoodIn wsX5_kind (wsV RX5 37 RX5 yX5_finds wsX5_finds) := goodIn_app (goodIn_of _ (by decide +kernel)) ggX5_kind_X5_finds
set_option maxRecDepth 20000 in
theorem ggX5_kind_X5_thinks : GoodIn wsX5_kind wsX5_thinks := goodIn_r _ [19, 7, 20, 21, 22, 5, 23, 82, 83, 84, 85, 86, 87, 88, 89, 90, 91, 92, 93, 94, 95, 96] (by decide +kernel) (by decide +kernel)
set_option maxRecDepth 20000 in
theorem gX5_kind_X5_thinks : GoodIn wsX5_kind (wsV RX5 119 RX5 yX5_thinks wsX5_thinks) := goodIn_app (goodIn_of _ (by decide +kernel)) ggX5_kind_X5_thinks
set_option maxRecDepth 20000 in
theorem ggX5_kind_X5_put : GoodIn wsX5_kind wsX5_put := goodIn_r _ [27, 7, 82, 83, 84, 85, 86, 87, 88, 89, 90, 91, 92, 93, 94, 95, 96] (by decide +kernel) (by decide +kernel)
set_option maxRecDepth 20000 in
theorem gX5_kind_X5_put : GoodIn wsX5_kind (wsV RX5 66 RX5 yX5_put wsX5_put) := goodIn_app (goodIn_of _ (by decide +kernel)) ggX5_kind_X5_put
set_option maxRecDepth 20000 in
theorem ggX5_kind_X5_looseOn : GoodIn wsX5_kind wsX5_looseOn := goodIn_r _ [31, 32, 33, 34, 5, 35, 36, 37, 38, 39, 7, 40, 41, 42, 43, 44, 45, 46, 47, 48, 49, 50, 24, 25, 26, 27, 51, 52, 53, 54, 55, 56, 57, 58, 59, 60, 61, 62, 63, 64, 65, 66, 67, 68, 69, 70, 71, 72, 73, 74, 75, 76, 77, 78, 79, 80, 81, 20, 21, 22, 23, 82, 83, 84, 85, 86, 87, 88, 89, 90, 91, 92, 93, 94, 95, 96] (by decide +kernel) (by decide +kernel)
set_option maxRecDepth 20000 in
theorem gX5_kind_X5_looseOn : GoodIn wsX5_kind (wsV RX5 125 RX5 yX5_looseOn wsX5_looseOn) := goodIn_app (goodIn_of _ (by decide +kernel)) ggX5_kind_X5_looseOn
theorem dX5_kind_0 : decode cX5_kind 0 = .ok (.aload_n 0, 1) := by decide +kernel
theorem dX5_kind_1 : decode cX5_kind 1 = .ok (.iload_n 1, 1) := by decide +kernel
theorem dX5_kind_2 : decode cX5_kind 2 = .ok (.invokevirtual 75, 3) := by decide +kernel
theorem dX5_kind_5 : decode cX5_kind 5 = .ok (.ifCond .eq 14, 3) := by decide +kernel
theorem dX5_kind_8 : decode cX5_kind 8 = .ok (.iload_n 2, 1) := by decide +kernel
theorem dX5_kind_9 : decode cX5_kind 9 = .ok (.i2l, 1) := by decide +kernel
theorem dX5_kind_10 : decode cX5_kind 10 = .ok (.iconst 1, 1) := by decide +kernel
theorem dX5_kind_11 : decode cX5_kind 11 = .ok (.bipush 100, 2) := by decide +kernel
theorem dX5_kind_13 : decode cX5_kind 13 = .ok (.invokestatic 41, 3) := by decide +kernel
theorem dX5_kind_16 : decode cX5_kind 16 = .ok (.ifCond .ne 10, 3) := by decide +kernel
theorem dX5_kind_19 : decode cX5_kind 19 = .ok (.aload_n 0, 1) := by decide +kernel
theorem dX5_kind_20 : decode cX5_kind 20 = .ok (.ldc 35, 2) := by decide +kernel
theorem dX5_kind_22 : decode cX5_kind 22 = .ok (.invokevirtual 37, 3) := by decide +kernel
theorem dX5_kind_25 : decode cX5_kind 25 = .ok (.ireturn, 1) := by decide +kernel
theorem dX5_kind_26 : decode cX5_kind 26 = .ok (.aload_n 0, 1) := by decide +kernel
theorem dX5_kind_27 : decode cX5_kind 27 = .ok (.invokevirtual 119, 3) := by decide +kernel
theorem dX5_kind_30 : decode cX5_kind 30 = .ok (.iconst 0, 1) := by decide +kernel
theorem dX5_kind_31 : decode cX5_kind 31 = .ok (.istore_n 3, 1) := by decide +kernel
theorem dX5_kind_32 : decode cX5_kind 32 = .ok (.bipush 9, 2) := by decide +kernel
theorem dX5_kind_34 : decode cX5_kind 34 = .ok (.istore 4, 2) := by decide +kernel
theorem dX5_kind_36 : decode cX5_kind 36 = .ok (.iconst 0, 1) := by decide +kernel
theorem dX5_kind_37 : decode cX5_kind 37 = .ok (.istore 5, 2) := by decide +kernel
theorem dX5_kind_39 : decode cX5_kind 39 = .ok (.iload 5, 2) := by decide +kernel
theorem dX5_kind_41 : decode cX5_kind 41 = .ok (.iconst 5, 1) := by decide +kernel
theorem dX5_kind_42 : decode cX5_kind 42 = .ok (.if_icmp .gt 54, 3) := by decide +kernel
theorem dX5_kind_45 : decode cX5_kind 45 = .ok (.aload_n 0, 1) := by decide +kernel
theorem dX5_kind_46 : decode cX5_kind 46 = .ok (.iload_n 1, 1) := by decide +kernel
theorem dX5_kind_47 : decode cX5_kind 47 = .ok (.iconst 0, 1) := by decide +kernel
theorem dX5_kind_48 : decode cX5_kind 48 = .ok (.iload 5, 2) := by decide +kernel
theorem dX5_kind_50 : decode cX5_kind 50 = .ok (.invokevirtual 66, 3) := by decide +kernel
theorem dX5_kind_53 : decode cX5_kind 53 = .ok (.aload_n 0, 1) := by decide +kernel
theorem dX5_kind_54 : decode cX5_kind 54 = .ok (.iload_n 2, 1) := by decide +kernel
theorem dX5_kind_55 : decode cX5_kind 55 = .ok (.invokevirtual 125, 3) := by decide +kernel
theorem dX5_kind_58 : decode cX5_kind 58 = .ok (.istore 6, 2) := by decide +kernel
theorem dX5_kind_60 : decode cX5_kind 60 = .ok (.iload 6, 2) := by decide +kernel
theorem dX5_kind_62 : decode cX5_kind 62 = .ok (.iload 4, 2) := by decide +kernel
theorem dX5_kind_64 : decode cX5_kind 64 = .ok (.if_icmp .ge 8, 3) := by decide +kernel
theorem dX5_kind_67 : decode cX5_kind 67 = .ok (.iload 5, 2) := by decide +kernel
theorem dX5_kind_69 : decode cX5_kind 69 = .ok (.goto 4, 3) := by decide +kernel
theorem dX5_kind_72 : decode cX5_kind 72 = .ok (.iload_n 3, 1) := by decide +kernel
theorem dX5_kind_73 : decode cX5_kind 73 = .ok (.istore_n 3, 1) := by decide +kernel
theorem dX5_kind_74 : decode cX5_kind 74 = .ok (.iload 6, 2) := by decide +kernel
theorem dX5_kind_76 : decode cX5_kind 76 = .ok (.iload 4, 2) := by decide +kernel
theorem dX5_kind_78 : decode cX5_kind 78 = .ok (.if_icmp .ge 8, 3) := by decide +kernel
theorem dX5_kind_81 : decode cX5_kind 81 = .ok (.iload 6, 2) := by decide +kernel
theorem dX5_kind_83 : decode cX5_kind 83 = .ok (.goto 5, 3) := by decide +kernel
theorem dX5_kind_86 : decode cX5_kind 86 = .ok (.iload 4, 2) := by decide +kernel
theorem dX5_kind_88 : decode cX5_kind 88 = .ok (.istore 4, 2) := by decide +kernel
theorem dX5_kind_90 : decode cX5_kind 90 = .ok (.iinc 5 1, 3) := by decide +kernel
theorem dX5_kind_93 : decode cX5_kind 93 = .ok (.goto (-54), 3) := by decide +kernel
theorem dX5_kind_96 : decode cX5_kind 96 = .ok (.iload_n 3, 1) := by decide +kernel
theorem dX5_kind_97 : decode cX5_kind 97 = .ok (.ireturn, 1) := by decide +kernel
set_option maxRecDepth 20000 in
theorem ggX5_far_X5_isPerson : GoodIn wsX5_far wsX5_isPerson := goodIn_r _ [6, 7, 8, 9, 5, 10, 80, 81, 82, 83, 84, 85, 86, 87, 88, 89, 90, 91, 92, 93, 94] (by decide +kernel) (by decide +kernel)
set_option maxRecDepth 20000 in
theorem gX5_far_X5_isPerson : GoodIn wsX5_far (wsV RX5 75 RX5 yX5_isPerson wsX5_isPerson) := goodIn_app (goodIn_of _ (by decide +kernel)) ggX5_far_X5_isPerson
set_option maxRecDepth 20000 in
theorem ggX5_far_X5_in : GoodIn wsX5_far wsX5_in := goodIn_r _ [10] (by decide +kernel) (by decide +kernel)
set_option maxRecDepth 20000 in
theorem gX5_far_X5_in : GoodIn wsX5_far (va_wsS RX5 41 yX5_in wsX5_in) := goodIn_app (goodIn_of _ (by decide +kernel)) ggX5_far_X5_in
set_option maxRecDepth 20000 in
theorem ggX5_far_X5_finds : GoodIn wsX5_far wsX5_finds := goodIn_r _ [14, 15, 1, 80, 81, 82, 83, 84, 85, 86, 87, 88, 89, 90, 91, 92, 93, 94] (by decide +kernel) (by decide +kernel)
set_option maxRecDepth 20000 in
theorem gX5_far_X5_finds : GoodIn wsX5_far (wsV RX5 37 RX5 yX5_finds wsX5_finds) := goodIn_app (goodIn_of _ (by decide +kernel)) ggX5_far_X5_finds
set_option maxRecDepth 20000 in
theorem ggX5_far_X5_thinks : GoodIn wsX5_far wsX5_thinks := goodIn_r _ [19, 7, 20, 21, 22, 5, 23, 80, 81, 82, 83, 84, 85, 86, 87, 88, 89, 90, 91, 92, 93, 94] (by decide +kernel) (by decide +kernel)
set_option maxRecDepth 20000 in
theorem gX5_far_X5_thinks : GoodIn wsX5_far (wsV RX5 119 RX5 yX5_thinks wsX5_thinks) := goodIn_app (goodIn_of _ (by decide +kernel)) ggX5_far_X5_thinks
set_option maxRecDepth 20000 in
theorem ggX5_far_X5_put : GoodIn wsX5_far wsX5_put := goodIn_r _ [27, 7, 80, 81, 82, 83, 84, 85, 86, 87, 88, 89, 90, 91, 92, 93, 94] (by decide +kernel) (by decide +kernel)
set_option maxRecDepth 20000 in
theorem gX5_far_X5_put : GoodIn wsX5_far (wsV RX5 66 RX5 yX5_put wsX5_put) := goodIn_app (goodIn_of _ (by decide +kernel)) ggX5_far_X5_put
set_option maxRecDepth 20000 in
theorem ggX5_far_X5_isInOn : GoodIn wsX5_far wsX5_isInOn := goodIn_r _ [31, 32, 33, 34, 5, 35, 36, 37, 38, 39, 7, 40, 41, 42, 43, 44, 45, 46, 47, 48, 49, 50, 24, 25, 26, 27, 51, 52, 53, 54, 55, 56, 57, 58, 59, 60, 61, 62, 63, 64, 65, 66, 67, 68, 69, 70, 71, 72, 73, 74, 20, 21, 22, 23, 80, 81, 82, 83, 84, 85, 86, 87, 88, 89, 90, 91, 92, 93, 94] (by decide +kernel) (by decide +kernel)
set_option maxRecDepth 20000 in
theorem gX5_far_X5_isInOn : GoodIn wsX5_far (wsV RX5 134 RX5 yX5_isInOn wsX5_isInOn) := goodIn_app (goodIn_of _ (by decide +kernel)) ggX5_far_X5_isInOn
set_option maxRecDepth 20000 in
theorem ggX5_far_X5_orNone : GoodIn wsX5_far wsX5_orNone := goodIn_r _ [78, 79, 11, 12, 13, 5, 14, 15, 1, 80, 81, 82, 83, 84, 85, 86, 87, 88, 89, 90, 91, 92, 93, 94] (by decide +kernel) (by decide +kernel)
set_option maxRecDepth 20000 in
theorem gX5_far_X5_orNone : GoodIn wsX5_far (wsV RX5 131 RX5 yX5_orNone wsX5_orNone) := goodIn_app (goodIn_of _ (by decide +kernel)) ggX5_far_X5_orNone
theorem dX5_far_0 : decode cX5_far 0 = .ok (.aload_n 0, 1) := by decide +kernel
theorem dX5_far_1 : decode cX5_far 1 = .ok (.iload_n 1, 1) := by decide +kernel
theorem dX5_far_2 : decode cX5_far 2 = .ok (.invokevirtual 75, 3) := by decide +kernel
theorem dX5_far_5 : decode cX5_far 5 = .ok (.ifCond .eq 14, 3) := by decide +kernel
theorem dX5_far_8 : decode cX5_far 8 = .ok (.iload_n 2, 1) := by decide +kernel
theorem dX5_far_9 : decode cX5_far 9 = .ok (.i2l, 1) := by decide +kernel
theorem dX5_far_10 : decode cX5_far 10 = .ok (.iconst 1, 1) := by decide +kernel
theorem dX5_far_11 : decode cX5_far 11 = .ok (.bipush 100, 2) := by decide +kernel
theorem dX5_far_13 : decode cX5_far 13 = .ok (.invokestatic 41, 3) := by decide +kernel
theorem dX5_far_16 : decode cX5_far 16 = .ok (.ifCond .ne 10, 3) := by decide +kernel
theorem dX5_far_19 : decode cX5_far 19 = .ok (.aload_n 0, 1) := by decide +kernel
theorem dX5_far_20 : decode cX5_far 20 = .ok (.ldc 35, 2) := by decide +kernel
theorem dX5_far_22 : decode cX5_far 22 = .ok (.invokevirtual 37, 3) := by decide +kernel
theorem dX5_far_25 : decode cX5_far 25 = .ok (.ireturn, 1) := by decide +kernel
theorem dX5_far_26 : decode cX5_far 26 = .ok (.aload_n 0, 1) := by decide +kernel
theorem dX5_far_27 : decode cX5_far 27 = .ok (.invokevirtual 119, 3) := by decide +kernel
theorem dX5_far_30 : decode cX5_far 30 = .ok (.iconst (-1), 1) := by decide +kernel
theorem dX5_far_31 : decode cX5_far 31 = .ok (.istore_n 3, 1) := by decide +kernel
theorem dX5_far_32 : decode cX5_far 32 = .ok (.sipush 199, 3) := by decide +kernel
theorem dX5_far_35 : decode cX5_far 35 = .ok (.istore 4, 2) := by decide +kernel
theorem dX5_far_37 : decode cX5_far 37 = .ok (.iload 4, 2) := by decide +kernel
theorem dX5_far_39 : decode cX5_far 39 = .ok (.ifCond .lt 37, 3) := by decide +kernel
theorem dX5_far_42 : decode cX5_far 42 = .ok (.iload_n 3, 1) := by decide +kernel
theorem dX5_far_43 : decode cX5_far 43 = .ok (.ifCond .ge 33, 3) := by decide +kernel
theorem dX5_far_46 : decode cX5_far 46 = .ok (.aload_n 0, 1) := by decide +kernel
theorem dX5_far_47 : decode cX5_far 47 = .ok (.iload_n 1, 1) := by decide +kernel
theorem dX5_far_48 : decode cX5_far 48 = .ok (.iconst 3, 1) := by decide +kernel
theorem dX5_far_49 : decode cX5_far 49 = .ok (.iload 4, 2) := by decide +kernel
theorem dX5_far_51 : decode cX5_far 51 = .ok (.invokevirtual 66, 3) := by decide +kernel
theorem dX5_far_54 : decode cX5_far 54 = .ok (.aload_n 0, 1) := by decide +kernel
theorem dX5_far_55 : decode cX5_far 55 = .ok (.iload_n 1, 1) := by decide +kernel
theorem dX5_far_56 : decode cX5_far 56 = .ok (.iload_n 2, 1) := by decide +kernel
theorem dX5_far_57 : decode cX5_far 57 = .ok (.invokevirtual 134, 3) := by decide +kernel
theorem dX5_far_60 : decode cX5_far 60 = .ok (.ifCond .eq 8, 3) := by decide +kernel
theorem dX5_far_63 : decode cX5_far 63 = .ok (.iload 4, 2) := by decide +kernel
theorem dX5_far_65 : decode cX5_far 65 = .ok (.goto 4, 3) := by decide +kernel
theorem dX5_far_68 : decode cX5_far 68 = .ok (.iconst (-1), 1) := by decide +kernel
theorem dX5_far_69 : decode cX5_far 69 = .ok (.istore_n 3, 1) := by decide +kernel
theorem dX5_far_70 : decode cX5_far 70 = .ok (.iinc 4 (-1), 3) := by decide +kernel
theorem dX5_far_73 : decode cX5_far 73 = .ok (.goto (-36), 3) := by decide +kernel
theorem dX5_far_76 : decode cX5_far 76 = .ok (.aload_n 0, 1) := by decide +kernel
theorem dX5_far_77 : decode cX5_far 77 = .ok (.iload_n 3, 1) := by decide +kernel
theorem dX5_far_78 : decode cX5_far 78 = .ok (.invokevirtual 131, 3) := by decide +kernel
theorem dX5_far_81 : decode cX5_far 81 = .ok (.ireturn, 1) := by decide +kernel
set_option maxRecDepth 20000 in
theorem ggX5_order_X5_in : GoodIn wsX5_order wsX5_in := goodIn_r _ [6] (by decide +kernel) (by decide +kernel)
set_option maxRecDepth 20000 in
theorem gX5_order_X5_in : GoodIn wsX5_order (va_wsS RX5 41 yX5_in wsX5_in) := goodIn_app (goodIn_of _ (by decide +kernel)) ggX5_order_X5_in
set_option maxRecDepth 20000 in
theorem ggX5_order_X5_finds : GoodIn wsX5_order wsX5_finds := goodIn_r _ [10, 11, 1, 83, 84, 85, 86, 87, 88, 89, 90, 91, 92, 93, 94, 95, 96, 97] (by decide +kernel) (by decide +kernel)
set_option maxRecDepth 20000 in
theorem gX5_order_X5_finds : GoodIn wsX5_order (wsV RX5 37 RX5 yX5_finds wsX5_finds) := goodIn_app (goodIn_of _ (by decide +kernel)) ggX5_order_X5_finds
set_option maxRecDepth 20000 in
theorem ggX5_order_X5_thinks : GoodIn wsX5_order wsX5_thinks := goodIn_r _ [15, 2, 16, 17, 18, 5, 19, 83, 84, 85, 86, 87, 88, 89, 90, 91, 92, 93, 94, 95, 96, 97] (by decide +kernel) (by decide +kernel)
set_option maxRecDepth 20000 in
theorem gX5_order_X5_thinks : GoodIn wsX5_order (wsV RX5 119 RX5 yX5_thinks wsX5_thinks) := goodIn_app (goodIn_of _ (by decide +kernel)) ggX5_order_X5_thinks
set_option maxRecDepth 20000 in
theorem ggX5_order_X5_looseOn : GoodIn wsX5_order wsX5_looseOn := goodIn_r _ [23, 24, 25, 26, 5, 27, 28, 29, 30, 31, 2, 32, 33, 34, 35, 36, 37, 38, 39, 40, 41, 42, 43, 44, 45, 46, 47, 48, 49, 50, 51, 52, 53, 54, 55, 56, 57, 58, 59, 60, 61, 62, 63, 64, 65, 66, 67, 68, 69, 70, 71, 72, 73, 74, 75, 76, 77, 16, 17, 18, 19, 83, 84, 85, 86, 87, 88, 89, 90, 91, 92, 93, 94, 95, 96, 97] (by decide +kernel) (by decide +kernel)
set_option maxRecDepth 20000 in
theorem gX5_order_X5_looseOn : GoodIn wsX5_order (wsV RX5 125 RX5 yX5_looseOn wsX5_looseOn) := goodIn_app (goodIn_of _ (by decide +kernel)) ggX5_order_X5_looseOn
set_option maxRecDepth 20000 in
theorem ggX5_order_X5_it : GoodIn wsX5_order wsX5_it := goodIn_r _ [35, 2, 83, 84, 85, 86, 87, 88, 89, 90, 91, 92, 93, 94, 95, 96, 97] (by decide +kernel) (by decide +kernel)
set_option maxRecDepth 20000 in
theorem gX5_order_X5_it : GoodIn wsX5_order (wsV RX5 45 RX5 yX5_it wsX5_it) := goodIn_app (goodIn_of _ (by decide +kernel)) ggX5_order_X5_it
set_option maxRecDepth 20000 in
theorem ggX5_order_X5_put : GoodIn wsX5_order wsX5_put := goodIn_r _ [46, 2, 83, 84, 85, 86, 87, 88, 89, 90, 91, 92, 93, 94, 95, 96, 97] (by decide +kernel) (by decide +kernel)
set_option maxRecDepth 20000 in
theorem gX5_order_X5_put : GoodIn wsX5_order (wsV RX5 66 RX5 yX5_put wsX5_put) := goodIn_app (goodIn_of _ (by decide +kernel)) ggX5_order_X5_put
set_option maxRecDepth 20000 in
theorem ggX5_order_X5_orNone : GoodIn wsX5_order wsX5_orNone := goodIn_r _ [81, 82, 7, 8, 9, 5, 10, 11, 1, 83, 84, 85, 86, 87, 88, 89, 90, 91, 92, 93, 94, 95, 96, 97] (by decide +kernel) (by decide +kernel)
set_option maxRecDepth 20000 in
theorem gX5_order_X5_orNone : GoodIn wsX5_order (wsV RX5 131 RX5 yX5_orNone wsX5_orNone) := goodIn_app (goodIn_of _ (by decide +kernel)) ggX5_order_X5_orNone
theorem dX5_order_0 : decode cX5_order 0 = .ok (.iload_n 1, 1) := by decide +kernel
theorem dX5_order_1 : decode cX5_order 1 = .ok (.i2l, 1) := by decide +kernel
theorem dX5_order_2 : decode cX5_order 2 = .ok (.iconst 1, 1) := by decide +kernel
theorem dX5_order_3 : decode cX5_order 3 = .ok (.bipush 100, 2) := by decide +kernel
theorem dX5_order_5 : decode cX5_order 5 = .ok (.invokestatic 41, 3) := by decide +kernel
theorem dX5_order_8 : decode cX5_order 8 = .ok (.ifCond .ne 10, 3) := by decide +kernel
theorem dX5_order_11 : decode cX5_order 11 = .ok (.aload_n 0, 1) := by decide +kernel
theorem dX5_order_12 : decode cX5_order 12 = .ok (.ldc 35, 2) := by decide +kernel
theorem dX5_order_14 : decode cX5_order 14 = .ok (.invokevirtual 37, 3) := by decide +kernel
theorem dX5_order_17 : decode cX5_order 17 = .ok (.ireturn, 1) := by decide +kernel
theorem dX5_order_18 : decode cX5_order 18 = .ok (.aload_n 0, 1) := by decide +kernel
theorem dX5_order_19 : decode cX5_order 19 = .ok (.invokevirtual 119, 3) := by decide +kernel
theorem dX5_order_22 : decode cX5_order 22 = .ok (.aload_n 0, 1) := by decide +kernel
theorem dX5_order_23 : decode cX5_order 23 = .ok (.iload_n 1, 1) := by decide +kernel
theorem dX5_order_24 : decode cX5_order 24 = .ok (.invokevirtual 125, 3) := by decide +kernel
theorem dX5_order_27 : decode cX5_order 27 = .ok (.istore_n 2, 1) := by decide +kernel
theorem dX5_order_28 : decode cX5_order 28 = .ok (.iconst (-1), 1) := by decide +kernel
theorem dX5_order_29 : decode cX5_order 29 = .ok (.istore_n 3, 1) := by decide +kernel
theorem dX5_order_30 : decode cX5_order 30 = .ok (.iconst 0, 1) := by decide +kernel
theorem dX5_order_31 : decode cX5_order 31 = .ok (.istore 4, 2) := by decide +kernel
theorem dX5_order_33 : decode cX5_order 33 = .ok (.iload 4, 2) := by decide +kernel
theorem dX5_order_35 : decode cX5_order 35 = .ok (.aload_n 0, 1) := by decide +kernel
theorem dX5_order_36 : decode cX5_order 36 = .ok (.getfield 9, 3) := by decide +kernel
theorem dX5_order_39 : decode cX5_order 39 = .ok (.iconst 4, 1) := by decide +kernel
theorem dX5_order_40 : decode cX5_order 40 = .ok (.iaload, 1) := by decide +kernel
theorem dX5_order_41 : decode cX5_order 41 = .ok (.if_icmp .ge 103, 3) := by decide +kernel
theorem dX5_order_44 : decode cX5_order 44 = .ok (.iload 4, 2) := by decide +kernel
theorem dX5_order_46 : decode cX5_order 46 = .ok (.iconst 1, 1) := by decide +kernel
theorem dX5_order_47 : decode cX5_order 47 = .ok (.iadd, 1) := by decide +kernel
theorem dX5_order_48 : decode cX5_order 48 = .ok (.istore 5, 2) := by decide +kernel
theorem dX5_order_50 : decode cX5_order 50 = .ok (.iload 5, 2) := by decide +kernel
theorem dX5_order_52 : decode cX5_order 52 = .ok (.aload_n 0, 1) := by decide +kernel
theorem dX5_order_53 : decode cX5_order 53 = .ok (.getfield 9, 3) := by decide +kernel
theorem dX5_order_56 : decode cX5_order 56 = .ok (.iconst 4, 1) := by decide +kernel
theorem dX5_order_57 : decode cX5_order 57 = .ok (.iaload, 1) := by decide +kernel
theorem dX5_order_58 : decode cX5_order 58 = .ok (.if_icmp .ge 80, 3) := by decide +kernel
theorem dX5_order_61 : decode cX5_order 61 = .ok (.aload_n 0, 1) := by decide +kernel
theorem dX5_order_62 : decode cX5_order 62 = .ok (.iload 4, 2) := by decide +kernel
theorem dX5_order_64 : decode cX5_order 64 = .ok (.iconst 3, 1) := by decide +kernel
theorem dX5_order_65 : decode cX5_order 65 = .ok (.invokevirtual 45, 3) := by decide +kernel
theorem dX5_order_68 : decode cX5_order 68 = .ok (.istore 6, 2) := by decide +kernel
theorem dX5_order_70 : decode cX5_order 70 = .ok (.aload_n 0, 1) := by decide +kernel
theorem dX5_order_71 : decode cX5_order 71 = .ok (.iload 4, 2) := by decide +kernel
theorem dX5_order_73 : decode cX5_order 73 = .ok (.iconst 3, 1) := by decide +kernel
theorem dX5_order_74 : decode cX5_order 74 = .ok (.aload_n 0, 1) := by decide +kernel
theorem dX5_order_75 : decode cX5_order 75 = .ok (.iload 5, 2) := by decide +kernel
theorem dX5_order_77 : decode cX5_order 77 = .ok (.iconst 3, 1) := by decide +kernel
theorem dX5_order_78 : decode cX5_order 78 = .ok (.invokevirtual 45, 3) := by decide +kernel
theorem dX5_order_81 : decode cX5_order 81 = .ok (.invokevirtual 66, 3) := by decide +kernel
theorem dX5_order_84 : decode cX5_order 84 = .ok (.aload_n 0, 1) := by decide +kernel
theorem dX5_order_85 : decode cX5_order 85 = .ok (.iload 5, 2) := by decide +kernel
theorem dX5_order_87 : decode cX5_order 87 = .ok (.iconst 3, 1) := by decide +kernel
theorem dX5_order_88 : decode cX5_order 88 = .ok (.iload 6, 2) := by decide +kernel
theorem dX5_order_90 : decode cX5_order 90 = .ok (.invokevirtual 66, 3) := by decide +kernel
theorem dX5_order_93 : decode cX5_order 93 = .ok (.aload_n 0, 1) := by decide +kernel
theorem dX5_order_94 : decode cX5_order 94 = .ok (.iload_n 1, 1) := by decide +kernel
theorem dX5_order_95 : decode cX5_order 95 = .ok (.invokevirtual 125, 3) := by decide +kernel
theorem dX5_order_98 : decode cX5_order 98 = .ok (.istore 7, 2) := by decide +kernel
theorem dX5_order_100 : decode cX5_order 100 = .ok (.iload 7, 2) := by decide +kernel
theorem dX5_order_102 : decode cX5_order 102 = .ok (.iload_n 2, 1) := by decide +kernel
theorem dX5_order_103 : decode cX5_order 103 = .ok (.if_icmp .ge 14, 3) := by decide +kernel
theorem dX5_order_106 : decode cX5_order 106 = .ok (.bipush 10, 2) := by decide +kernel
theorem dX5_order_108 : decode cX5_order 108 = .ok (.iload 4, 2) := by decide +kernel
theorem dX5_order_110 : decode cX5_order 110 = .ok (.imul, 1) := by decide +kernel
theorem dX5_order_111 : decode cX5_order 111 = .ok (.iload 5, 2) := by decide +kernel
theorem dX5_order_113 : decode cX5_order 113 = .ok (.iadd, 1) := by decide +kernel
theorem dX5_order_114 : decode cX5_order 114 = .ok (.goto 4, 3) := by decide +kernel
theorem dX5_order_117 : decode cX5_order 117 = .ok (.iload_n 3, 1) := by decide +kernel
theorem dX5_order_118 : decode cX5_order 118 = .ok (.istore_n 3, 1) := by decide +kernel
theorem dX5_order_119 : decode cX5_order 119 = .ok (.iload 7, 2) := by decide +kernel
theorem dX5_order_121 : decode cX5_order 121 = .ok (.iload_n 2, 1) := by decide +kernel
theorem dX5_order_122 : decode cX5_order 122 = .ok (.if_icmp .ge 8, 3) := by decide +kernel
theorem dX5_order_125 : decode cX5_order 125 = .ok (.iload 7, 2) := by decide +kernel
theorem dX5_order_127 : decode cX5_order 127 = .ok (.goto 4, 3) := by decide +kernel
theorem dX5_order_130 : decode cX5_order 130 = .ok (.iload_n 2, 1) := by decide +kernel
theorem dX5_order_131 : decode cX5_order 131 = .ok (.istore_n 2, 1) := by decide +kernel
theorem dX5_order_132 : decode cX5_order 132 = .ok (.iinc 5 1, 3) := by decide +kernel
theorem dX5_order_135 : decode cX5_order 135 = .ok (.goto (-85), 3) := by decide +kernel
theorem dX5_order_138 : decode cX5_order 138 = .ok (.iinc 4 1, 3) := by decide +kernel
theorem dX5_order_141 : decode cX5_order 141 = .ok (.goto (-108), 3) := by decide +kernel
theorem dX5_order_144 : decode cX5_order 144 = .ok (.aload_n 0, 1) := by decide +kernel
theorem dX5_order_145 : decode cX5_order 145 = .ok (.iload_n 3, 1) := by decide +kernel
theorem dX5_order_146 : decode cX5_order 146 = .ok (.invokevirtual 131, 3) := by decide +kernel
theorem dX5_order_149 : decode cX5_order 149 = .ok (.ireturn, 1) := by decide +kernel
set_option maxRecDepth 20000 in
theorem ggX5_take_X5_in : GoodIn wsX5_take wsX5_in := goodIn_r _ [6] (by decide +kernel) (by decide +kernel)
set_option maxRecDepth 20000 in
theorem gX5_take_X5_in : GoodIn wsX5_take (va_wsS RX5 41 yX5_in wsX5_in) := goodIn_app (goodIn_of _ (by decide +kernel)) ggX5_take_X5_in
set_option maxRecDepth 20000 in
theorem ggX5_take_X5_finds : GoodIn wsX5_take wsX5_finds := goodIn_r _ [10, 11, 1, 79, 80, 81, 82, 83, 84, 85, 86, 87, 88, 89, 90, 91, 92, 93] (by decide +kernel) (by decide +kernel)
set_option maxRecDepth 20000 in
theorem gX5_take_X5_finds : GoodIn wsX5_take (wsV RX5 37 RX5 yX5_finds wsX5_finds) := goodIn_app (goodIn_of _ (by decide +kernel)) ggX5_take_X5_finds
set_option maxRecDepth 20000 in
theorem ggX5_take_X5_thinks : GoodIn wsX5_take wsX5_thinks := goodIn_r _ [15, 2, 16, 17, 18, 5, 19, 79, 80, 81, 82, 83, 84, 85, 86, 87, 88, 89, 90, 91, 92, 93] (by decide +kernel) (by decide +kernel)
set_option maxRecDepth 20000 in
theorem gX5_take_X5_thinks : GoodIn wsX5_take (wsV RX5 119 RX5 yX5_thinks wsX5_thinks) := goodIn_app (goodIn_of _ (by decide +kernel)) ggX5_take_X5_thinks
set_option maxRecDepth 20000 in
theorem ggX5_take_X5_it : GoodIn wsX5_take wsX5_it := goodIn_r _ [23, 2, 79, 80, 81, 82, 83, 84, 85, 86, 87, 88, 89, 90, 91, 92, 93] (by decide +kernel) (by decide +kernel)
set_option maxRecDepth 20000 in
theorem gX5_take_X5_it : GoodIn wsX5_take (wsV RX5 45 RX5 yX5_it wsX5_it) := goodIn_app (goodIn_of _ (by decide +kernel)) ggX5_take_X5_it
set_option maxRecDepth 20000 in
theorem ggX5_take_X5_put : GoodIn wsX5_take wsX5_put := goodIn_r _ [27, 2, 79, 80, 81, 82, 83, 84, 85, 86, 87, 88, 89, 90, 91, 92, 93] (by decide +kernel) (by decide +kernel)
set_option maxRecDepth 20000 in
theorem gX5_take_X5_put : GoodIn wsX5_take (wsV RX5 66 RX5 yX5_put wsX5_put) := goodIn_app (goodIn_of _ (by decide +kernel)) ggX5_take_X5_put
set_option maxRecDepth 20000 in
theorem ggX5_take_X5_goesFor : GoodIn wsX5_take wsX5_goesFor := goodIn_r _ [31, 32, 33, 34, 5, 35, 2, 20, 21, 22, 23, 36, 37, 38, 39, 40, 41, 42, 24, 25, 26, 27, 43, 44, 45, 46, 47, 48, 49, 50, 51, 52, 53, 54, 55, 56, 57, 58, 59, 60, 61, 62, 79, 80, 81, 82, 83, 84, 85, 86, 87, 88, 89, 90, 91, 92, 93] (by decide +kernel) (by decide +kernel)
set_option maxRecDepth 20000 in
theorem gX5_take_X5_goesFor : GoodIn wsX5_take (wsV RX5 112 RX5 yX5_goesFor wsX5_goesFor) := goodIn_app (goodIn_of _ (by decide +kernel)) ggX5_take_X5_goesFor
set_option maxRecDepth 20000 in
theorem ggX5_take_X5_inside : GoodIn wsX5_take wsX5_inside := goodIn_r _ [66, 2, 20, 21, 22, 5, 23, 79, 80, 81, 82, 83, 84, 85, 86, 87, 88, 89, 90, 91, 92, 93] (by decide +kernel) (by decide +kernel)
set_option maxRecDepth 20000 in
theorem gX5_take_X5_inside : GoodIn wsX5_take (wsV RX5 56 RX5 yX5_inside wsX5_inside) := goodIn_app (goodIn_of _ (by decide +kernel)) ggX5_take_X5_inside
set_option maxRecDepth 20000 in
theorem ggX5_take_X5_bits : GoodIn wsX5_take wsX5_bits := goodIn_r _ [69] (by decide +kernel) (by decide +kernel)
set_option maxRecDepth 20000 in
theorem gX5_take_X5_bits : GoodIn wsX5_take (va_wsS RX5 128 yX5_bits wsX5_bits) := goodIn_app (goodIn_of _ (by decide +kernel)) ggX5_take_X5_bits
set_option maxRecDepth 20000 in
theorem ggX5_take_X5_putsBack : GoodIn wsX5_take wsX5_putsBack := goodIn_r _ [73, 16, 2, 17, 18, 5, 19, 79, 80, 81, 82, 83, 84, 85, 86, 87, 88, 89, 90, 91, 92, 93] (by decide +kernel) (by decide +kernel)
set_option maxRecDepth 20000 in
theorem gX5_take_X5_putsBack : GoodIn wsX5_take (wsV RX5 122 RX5 yX5_putsBack wsX5_putsBack) := goodIn_app (goodIn_of _ (by decide +kernel)) ggX5_take_X5_putsBack
set_option maxRecDepth 20000 in
theorem ggX5_take_X5_orNone : GoodIn wsX5_take wsX5_orNone := goodIn_r _ [77, 78, 7, 8, 9, 5, 10, 11, 1, 79, 80, 81, 82, 83, 84, 85, 86, 87, 88, 89, 90, 91, 92, 93] (by decide +kernel) (by decide +kernel)
set_option maxRecDepth 20000 in
theorem gX5_take_X5_orNone : GoodIn wsX5_take (wsV RX5 131 RX5 yX5_orNone wsX5_orNone) := goodIn_app (goodIn_of _ (by decide +kernel)) ggX5_take_X5_orNone
theorem dX5_take_0 : decode cX5_take 0 = .ok (.iload_n 1, 1) := by decide +kernel
theorem dX5_take_1 : decode cX5_take 1 = .ok (.i2l, 1) := by decide +kernel
theorem dX5_take_2 : decode cX5_take 2 = .ok (.iconst 1, 1) := by decide +kernel
theorem dX5_take_3 : decode cX5_take 3 = .ok (.bipush 100, 2) := by decide +kernel
theorem dX5_take_5 : decode cX5_take 5 = .ok (.invokestatic 41, 3) := by decide +kernel
theorem dX5_take_8 : decode cX5_take 8 = .ok (.ifCond .ne 10, 3) := by decide +kernel
theorem dX5_take_11 : decode cX5_take 11 = .ok (.aload_n 0, 1) := by decide +kernel
theorem dX5_take_12 : decode cX5_take 12 = .ok (.ldc 35, 2) := by decide +kernel
theorem dX5_take_14 : decode cX5_take 14 = .ok (.invokevirtual 37, 3) := by decide +kernel
theorem dX5_take_17 : decode cX5_take 17 = .ok (.ireturn, 1) := by decide +kernel
theorem dX5_take_18 : decode cX5_take 18 = .ok (.aload_n 0, 1) := by decide +kernel
theorem dX5_take_19 : decode cX5_take 19 = .ok (.invokevirtual 119, 3) := by decide +kernel
theorem dX5_take_22 : decode cX5_take 22 = .ok (.iconst (-1), 1) := by decide +kernel
theorem dX5_take_23 : decode cX5_take 23 = .ok (.istore_n 2, 1) := by decide +kernel
theorem dX5_take_24 : decode cX5_take 24 = .ok (.bipush 9, 2) := by decide +kernel
theorem dX5_take_26 : decode cX5_take 26 = .ok (.istore_n 3, 1) := by decide +kernel
theorem dX5_take_27 : decode cX5_take 27 = .ok (.iconst 0, 1) := by decide +kernel
theorem dX5_take_28 : decode cX5_take 28 = .ok (.istore 4, 2) := by decide +kernel
theorem dX5_take_30 : decode cX5_take 30 = .ok (.iload 4, 2) := by decide +kernel
theorem dX5_take_32 : decode cX5_take 32 = .ok (.aload_n 0, 1) := by decide +kernel
theorem dX5_take_33 : decode cX5_take 33 = .ok (.getfield 9, 3) := by decide +kernel
theorem dX5_take_36 : decode cX5_take 36 = .ok (.iconst 4, 1) := by decide +kernel
theorem dX5_take_37 : decode cX5_take 37 = .ok (.iaload, 1) := by decide +kernel
theorem dX5_take_38 : decode cX5_take 38 = .ok (.if_icmp .ge 72, 3) := by decide +kernel
theorem dX5_take_41 : decode cX5_take 41 = .ok (.aload_n 0, 1) := by decide +kernel
theorem dX5_take_42 : decode cX5_take 42 = .ok (.iload 4, 2) := by decide +kernel
theorem dX5_take_44 : decode cX5_take 44 = .ok (.iconst 1, 1) := by decide +kernel
theorem dX5_take_45 : decode cX5_take 45 = .ok (.invokevirtual 45, 3) := by decide +kernel
theorem dX5_take_48 : decode cX5_take 48 = .ok (.iconst 1, 1) := by decide +kernel
theorem dX5_take_49 : decode cX5_take 49 = .ok (.if_icmp .ne 55, 3) := by decide +kernel
theorem dX5_take_52 : decode cX5_take 52 = .ok (.aload_n 0, 1) := by decide +kernel
theorem dX5_take_53 : decode cX5_take 53 = .ok (.iload 4, 2) := by decide +kernel
theorem dX5_take_55 : decode cX5_take 55 = .ok (.iconst 1, 1) := by decide +kernel
theorem dX5_take_56 : decode cX5_take 56 = .ok (.iconst 0, 1) := by decide +kernel
theorem dX5_take_57 : decode cX5_take 57 = .ok (.invokevirtual 66, 3) := by decide +kernel
theorem dX5_take_60 : decode cX5_take 60 = .ok (.aload_n 0, 1) := by decide +kernel
theorem dX5_take_61 : decode cX5_take 61 = .ok (.iload_n 1, 1) := by decide +kernel
theorem dX5_take_62 : decode cX5_take 62 = .ok (.invokevirtual 112, 3) := by decide +kernel
theorem dX5_take_65 : decode cX5_take 65 = .ok (.aload_n 0, 1) := by decide +kernel
theorem dX5_take_66 : decode cX5_take 66 = .ok (.invokevirtual 56, 3) := by decide +kernel
theorem dX5_take_69 : decode cX5_take 69 = .ok (.invokestatic 128, 3) := by decide +kernel
theorem dX5_take_72 : decode cX5_take 72 = .ok (.istore 5, 2) := by decide +kernel
theorem dX5_take_74 : decode cX5_take 74 = .ok (.aload_n 0, 1) := by decide +kernel
theorem dX5_take_75 : decode cX5_take 75 = .ok (.invokevirtual 122, 3) := by decide +kernel
theorem dX5_take_78 : decode cX5_take 78 = .ok (.iload 5, 2) := by decide +kernel
theorem dX5_take_80 : decode cX5_take 80 = .ok (.iload_n 3, 1) := by decide +kernel
theorem dX5_take_81 : decode cX5_take 81 = .ok (.if_icmp .ge 8, 3) := by decide +kernel
theorem dX5_take_84 : decode cX5_take 84 = .ok (.iload 4, 2) := by decide +kernel
theorem dX5_take_86 : decode cX5_take 86 = .ok (.goto 4, 3) := by decide +kernel
theorem dX5_take_89 : decode cX5_take 89 = .ok (.iload_n 2, 1) := by decide +kernel
theorem dX5_take_90 : decode cX5_take 90 = .ok (.istore_n 2, 1) := by decide +kernel
theorem dX5_take_91 : decode cX5_take 91 = .ok (.iload 5, 2) := by decide +kernel
theorem dX5_take_93 : decode cX5_take 93 = .ok (.iload_n 3, 1) := by decide +kernel
theorem dX5_take_94 : decode cX5_take 94 = .ok (.if_icmp .ge 8, 3) := by decide +kernel
theorem dX5_take_97 : decode cX5_take 97 = .ok (.iload 5, 2) := by decide +kernel
theorem dX5_take_99 : decode cX5_take 99 = .ok (.goto 4, 3) := by decide +kernel
theorem dX5_take_102 : decode cX5_take 102 = .ok (.iload_n 3, 1) := by decide +kernel
theorem dX5_take_103 : decode cX5_take 103 = .ok (.istore_n 3, 1) := by decide +kernel
theorem dX5_take_104 : decode cX5_take 104 = .ok (.iinc 4 1, 3) := by decide +kernel
theorem dX5_take_107 : decode cX5_take 107 = .ok (.goto (-77), 3) := by decide +kernel
theorem dX5_take_110 : decode cX5_take 110 = .ok (.aload_n 0, 1) := by decide +kernel
theorem dX5_take_111 : decode cX5_take 111 = .ok (.iload_n 2, 1) := by decide +kernel
theorem dX5_take_112 : decode cX5_take 112 = .ok (.invokevirtual 131, 3) := by decide +kernel
theorem dX5_take_115 : decode cX5_take 115 = .ok (.ireturn, 1) := by decide +kernel
set_option maxRecDepth 20000 in
theorem ggX5_load_X5_isPerson : GoodIn wsX5_load wsX5_isPerson := goodIn_r _ [6, 7, 8, 9, 5, 10, 80, 81, 82, 83, 84, 85, 86, 87, 88, 89, 90, 91, 92, 93, 94] (by decide +kernel) (by decide +kernel)
set_option maxRecDepth 20000 in
theorem gX5_load_X5_isPerson : GoodIn wsX5_load (wsV RX5 75 RX5 yX5_isPerson wsX5_isPerson) := goodIn_app (goodIn_of _ (by decide +kernel)) ggX5_load_X5_isPerson
set_option maxRecDepth 20000 in
theorem ggX5_load_X5_in : GoodIn wsX5_load wsX5_in := goodIn_r _ [10] (by decide +kernel) (by decide +kernel)
set_option maxRecDepth 20000 in
theorem gX5_load_X5_in : GoodIn wsX5_load (va_wsS RX5 41 yX5_in wsX5_in) := goodIn_app (goodIn_of _ (by decide +kernel)) ggX5_load_X5_in
set_option maxRecDepth 20000 in
theorem ggX5_load_X5_finds : GoodIn wsX5_load wsX5_finds := goodIn_r _ [14, 15, 1, 80, 81, 82, 83, 84, 85, 86, 87, 88, 89, 90, 91, 92, 93, 94] (by decide +kernel) (by decide +kernel)
set_option maxRecDepth 20000 in
theorem gX5_load_X5_finds : GoodIn wsX5_load (wsV RX5 37 RX5 yX5_finds wsX5_finds) := goodIn_app (goodIn_of _ (by decide +kernel)) ggX5_load_X5_finds
set_option maxRecDepth 20000 in
theorem ggX5_load_X5_thinks : GoodIn wsX5_load wsX5_thinks := goodIn_r _ [19, 7, 20, 21, 22, 5, 23, 80, 81, 82, 83, 84, 85, 86, 87, 88, 89, 90, 91, 92, 93, 94] (by decide +kernel) (by decide +kernel)
set_option maxRecDepth 20000 in
theorem gX5_load_X5_thinks : GoodIn wsX5_load (wsV RX5 119 RX5 yX5_thinks wsX5_thinks) := goodIn_app (goodIn_of _ (by decide +kernel)) ggX5_load_X5_thinks
set_option maxRecDepth 20000 in
theorem ggX5_load_X5_put : GoodIn wsX5_load wsX5_put := goodIn_r _ [27, 7, 80, 81, 82, 83, 84, 85, 86, 87, 88, 89, 90, 91, 92, 93, 94] (by decide +kernel) (by decide +kernel)
set_option maxRecDepth 20000 in
theorem gX5_load_X5_put : GoodIn wsX5_load (wsV RX5 66 RX5 yX5_put wsX5_put) := goodIn_app (goodIn_of _ (by decide +kernel)) ggX5_load_X5_put
set_option maxRecDepth 20000 in
theorem ggX5_load_X5_isInOn : GoodIn wsX5_load wsX5_isInOn := goodIn_r _ [31, 32, 33, 34, 5, 35, 36, 37, 38, 39, 7, 40, 41, 42, 43, 44, 45, 46, 47, 48, 49, 50, 24, 25, 26, 27, 51, 52, 53, 54, 55, 56, 57, 58, 59, 60, 61, 62, 63, 64, 65, 66, 67, 68, 69, 70, 71, 72, 73, 74, 20, 21, 22, 23, 80, 81, 82, 83, 84, 85, 86, 87, 88, 89, 90, 91, 92, 93, 94] (by decide +kernel) (by decide +kernel)
set_option maxRecDepth 20000 in
theorem gX5_load_X5_isInOn : GoodIn wsX5_load (wsV RX5 134 RX5 yX5_isInOn wsX5_isInOn) := goodIn_app (goodIn_of _ (by decide +kernel)) ggX5_load_X5_isInOn
set_option maxRecDepth 20000 in
theorem ggX5_load_X5_orNone : GoodIn wsX5_load wsX5_orNone := goodIn_r _ [78, 79, 11, 12, 13, 5, 14, 15, 1, 80, 81, 82, 83, 84, 85, 86, 87, 88, 89, 90, 91, 92, 93, 94] (by decide +kernel) (by decide +kernel)
set_option maxRecDepth 20000 in
theorem gX5_load_X5_orNone : GoodIn wsX5_load (wsV RX5 131 RX5 yX5_orNone wsX5_orNone) := goodIn_app (goodIn_of _ (by decide +kernel)) ggX5_load_X5_orNone
theorem dX5_load_0 : decode cX5_load 0 = .ok (.aload_n 0, 1) := by decide +kernel
theorem dX5_load_1 : decode cX5_load 1 = .ok (.iload_n 1, 1) := by decide +kernel
theorem dX5_load_2 : decode cX5_load 2 = .ok (.invokevirtual 75, 3) := by decide +kernel
theorem dX5_load_5 : decode cX5_load 5 = .ok (.ifCond .eq 14, 3) := by decide +kernel
theorem dX5_load_8 : decode cX5_load 8 = .ok (.iload_n 2, 1) := by decide +kernel
theorem dX5_load_9 : decode cX5_load 9 = .ok (.i2l, 1) := by decide +kernel
theorem dX5_load_10 : decode cX5_load 10 = .ok (.iconst 1, 1) := by decide +kernel
theorem dX5_load_11 : decode cX5_load 11 = .ok (.bipush 100, 2) := by decide +kernel
theorem dX5_load_13 : decode cX5_load 13 = .ok (.invokestatic 41, 3) := by decide +kernel
theorem dX5_load_16 : decode cX5_load 16 = .ok (.ifCond .ne 10, 3) := by decide +kernel
theorem dX5_load_19 : decode cX5_load 19 = .ok (.aload_n 0, 1) := by decide +kernel
theorem dX5_load_20 : decode cX5_load 20 = .ok (.ldc 35, 2) := by decide +kernel
theorem dX5_load_22 : decode cX5_load 22 = .ok (.invokevirtual 37, 3) := by decide +kernel
theorem dX5_load_25 : decode cX5_load 25 = .ok (.ireturn, 1) := by decide +kernel
theorem dX5_load_26 : decode cX5_load 26 = .ok (.aload_n 0, 1) := by decide +kernel
theorem dX5_load_27 : decode cX5_load 27 = .ok (.invokevirtual 119, 3) := by decide +kernel
theorem dX5_load_30 : decode cX5_load 30 = .ok (.iconst (-1), 1) := by decide +kernel
theorem dX5_load_31 : decode cX5_load 31 = .ok (.istore_n 3, 1) := by decide +kernel
theorem dX5_load_32 : decode cX5_load 32 = .ok (.iconst 0, 1) := by decide +kernel
theorem dX5_load_33 : decode cX5_load 33 = .ok (.istore 4, 2) := by decide +kernel
theorem dX5_load_35 : decode cX5_load 35 = .ok (.iload 4, 2) := by decide +kernel
theorem dX5_load_37 : decode cX5_load 37 = .ok (.bipush 9, 2) := by decide +kernel
theorem dX5_load_39 : decode cX5_load 39 = .ok (.if_icmp .gt 37, 3) := by decide +kernel
theorem dX5_load_42 : decode cX5_load 42 = .ok (.iload_n 3, 1) := by decide +kernel
theorem dX5_load_43 : decode cX5_load 43 = .ok (.ifCond .ge 33, 3) := by decide +kernel
theorem dX5_load_46 : decode cX5_load 46 = .ok (.aload_n 0, 1) := by decide +kernel
theorem dX5_load_47 : decode cX5_load 47 = .ok (.iload_n 1, 1) := by decide +kernel
theorem dX5_load_48 : decode cX5_load 48 = .ok (.iconst 2, 1) := by decide +kernel
theorem dX5_load_49 : decode cX5_load 49 = .ok (.iload 4, 2) := by decide +kernel
theorem dX5_load_51 : decode cX5_load 51 = .ok (.invokevirtual 66, 3) := by decide +kernel
theorem dX5_load_54 : decode cX5_load 54 = .ok (.aload_n 0, 1) := by decide +kernel
theorem dX5_load_55 : decode cX5_load 55 = .ok (.iload_n 1, 1) := by decide +kernel
theorem dX5_load_56 : decode cX5_load 56 = .ok (.iload_n 2, 1) := by decide +kernel
theorem dX5_load_57 : decode cX5_load 57 = .ok (.invokevirtual 134, 3) := by decide +kernel
theorem dX5_load_60 : decode cX5_load 60 = .ok (.ifCond .eq 8, 3) := by decide +kernel
theorem dX5_load_63 : decode cX5_load 63 = .ok (.iload 4, 2) := by decide +kernel
theorem dX5_load_65 : decode cX5_load 65 = .ok (.goto 4, 3) := by decide +kernel
theorem dX5_load_68 : decode cX5_load 68 = .ok (.iconst (-1), 1) := by decide +kernel
theorem dX5_load_69 : decode cX5_load 69 = .ok (.istore_n 3, 1) := by decide +kernel
theorem dX5_load_70 : decode cX5_load 70 = .ok (.iinc 4 1, 3) := by decide +kernel
theorem dX5_load_73 : decode cX5_load 73 = .ok (.goto (-38), 3) := by decide +kernel
theorem dX5_load_76 : decode cX5_load 76 = .ok (.aload_n 0, 1) := by decide +kernel
theorem dX5_load_77 : decode cX5_load 77 = .ok (.iload_n 3, 1) := by decide +kernel
theorem dX5_load_78 : decode cX5_load 78 = .ok (.invokevirtual 131, 3) := by decide +kernel
theorem dX5_load_81 : decode cX5_load 81 = .ok (.ireturn, 1) := by decide +kernel
set_option maxRecDepth 20000 in
theorem ggX5_feed_X5_in : GoodIn wsX5_feed wsX5_in := goodIn_r _ [8] (by decide +kernel) (by decide +kernel)
set_option maxRecDepth 20000 in
theorem gX5_feed_X5_in : GoodIn wsX5_feed (va_wsS RX5 41 yX5_in wsX5_in) := goodIn_app (goodIn_of _ (by decide +kernel)) ggX5_feed_X5_in
set_option maxRecDepth 20000 in
theorem ggX5_feed_X5_finds : GoodIn wsX5_feed wsX5_finds := goodIn_r _ [12, 13, 1, 14, 15, 16, 17, 18, 19, 20, 21, 22, 23, 24, 25, 26, 27, 28] (by decide +kernel) (by decide +kernel)
set_option maxRecDepth 20000 in
theorem gX5_feed_X5_finds : GoodIn wsX5_feed (wsV RX5 37 RX5 yX5_finds wsX5_finds) := goodIn_app (goodIn_of _ (by decide +kernel)) ggX5_feed_X5_finds
theorem dX5_feed_0 : decode cX5_feed 0 = .ok (.iload_n 2, 1) := by decide +kernel
theorem dX5_feed_1 : decode cX5_feed 1 = .ok (.i2l, 1) := by decide +kernel
theorem dX5_feed_2 : decode cX5_feed 2 = .ok (.iconst 1, 1) := by decide +kernel
theorem dX5_feed_3 : decode cX5_feed 3 = .ok (.iconst 4, 1) := by decide +kernel
theorem dX5_feed_4 : decode cX5_feed 4 = .ok (.invokestatic 41, 3) := by decide +kernel
theorem dX5_feed_7 : decode cX5_feed 7 = .ok (.ifCond .ne 10, 3) := by decide +kernel
theorem dX5_feed_10 : decode cX5_feed 10 = .ok (.aload_n 0, 1) := by decide +kernel
theorem dX5_feed_11 : decode cX5_feed 11 = .ok (.ldc 35, 2) := by decide +kernel
theorem dX5_feed_13 : decode cX5_feed 13 = .ok (.invokevirtual 37, 3) := by decide +kernel
theorem dX5_feed_16 : decode cX5_feed 16 = .ok (.ireturn, 1) := by decide +kernel
theorem dX5_feed_17 : decode cX5_feed 17 = .ok (.aload_n 0, 1) := by decide +kernel
theorem dX5_feed_18 : decode cX5_feed 18 = .ok (.getfield 137, 3) := by decide +kernel
theorem dX5_feed_21 : decode cX5_feed 21 = .ok (.iload_n 2, 1) := by decide +kernel
theorem dX5_feed_22 : decode cX5_feed 22 = .ok (.iadd, 1) := by decide +kernel
theorem dX5_feed_23 : decode cX5_feed 23 = .ok (.bipush 120, 2) := by decide +kernel
theorem dX5_feed_25 : decode cX5_feed 25 = .ok (.if_icmp .le 10, 3) := by decide +kernel
theorem dX5_feed_28 : decode cX5_feed 28 = .ok (.aload_n 0, 1) := by decide +kernel
theorem dX5_feed_29 : decode cX5_feed 29 = .ok (.ldc 70, 2) := by decide +kernel
theorem dX5_feed_31 : decode cX5_feed 31 = .ok (.invokevirtual 37, 3) := by decide +kernel
theorem dX5_feed_34 : decode cX5_feed 34 = .ok (.ireturn, 1) := by decide +kernel
theorem dX5_feed_35 : decode cX5_feed 35 = .ok (.iload_n 2, 1) := by decide +kernel
theorem dX5_feed_36 : decode cX5_feed 36 = .ok (.iconst 1, 1) := by decide +kernel
theorem dX5_feed_37 : decode cX5_feed 37 = .ok (.isub, 1) := by decide +kernel
theorem dX5_feed_38 : decode cX5_feed 38 = .ok (.istore_n 3, 1) := by decide +kernel
theorem dX5_feed_39 : decode cX5_feed 39 = .ok (.iload_n 3, 1) := by decide +kernel
theorem dX5_feed_40 : decode cX5_feed 40 = .ok (.ifCond .lt 38, 3) := by decide +kernel
theorem dX5_feed_43 : decode cX5_feed 43 = .ok (.aload_n 0, 1) := by decide +kernel
theorem dX5_feed_44 : decode cX5_feed 44 = .ok (.getfield 22, 3) := by decide +kernel
theorem dX5_feed_47 : decode cX5_feed 47 = .ok (.aload_n 0, 1) := by decide +kernel
theorem dX5_feed_48 : decode cX5_feed 48 = .ok (.getfield 137, 3) := by decide +kernel
theorem dX5_feed_51 : decode cX5_feed 51 = .ok (.iload_n 1, 1) := by decide +kernel
theorem dX5_feed_52 : decode cX5_feed 52 = .ok (.bipush 8, 2) := by decide +kernel
theorem dX5_feed_54 : decode cX5_feed 54 = .ok (.iload_n 3, 1) := by decide +kernel
theorem dX5_feed_55 : decode cX5_feed 55 = .ok (.imul, 1) := by decide +kernel
theorem dX5_feed_56 : decode cX5_feed 56 = .ok (.ishr, 1) := by decide +kernel
theorem dX5_feed_57 : decode cX5_feed 57 = .ok (.sipush 255, 3) := by decide +kernel
theorem dX5_feed_60 : decode cX5_feed 60 = .ok (.iand, 1) := by decide +kernel
theorem dX5_feed_61 : decode cX5_feed 61 = .ok (.iastore, 1) := by decide +kernel
theorem dX5_feed_62 : decode cX5_feed 62 = .ok (.aload_n 0, 1) := by decide +kernel
theorem dX5_feed_63 : decode cX5_feed 63 = .ok (.dup, 1) := by decide +kernel
theorem dX5_feed_64 : decode cX5_feed 64 = .ok (.getfield 137, 3) := by decide +kernel
theorem dX5_feed_67 : decode cX5_feed 67 = .ok (.iconst 1, 1) := by decide +kernel
theorem dX5_feed_68 : decode cX5_feed 68 = .ok (.iadd, 1) := by decide +kernel
theorem dX5_feed_69 : decode cX5_feed 69 = .ok (.putfield 137, 3) := by decide +kernel
theorem dX5_feed_72 : decode cX5_feed 72 = .ok (.iinc 3 (-1), 3) := by decide +kernel
theorem dX5_feed_75 : decode cX5_feed 75 = .ok (.goto (-36), 3) := by decide +kernel
theorem dX5_feed_78 : decode cX5_feed 78 = .ok (.aload_n 0, 1) := by decide +kernel
theorem dX5_feed_79 : decode cX5_feed 79 = .ok (.getfield 137, 3) := by decide +kernel
theorem dX5_feed_82 : decode cX5_feed 82 = .ok (.ireturn, 1) := by decide +kernel
theorem dX5_wipe_0 : decode cX5_wipe 0 = .ok (.aload_n 0, 1) := by decide +kernel
theorem dX5_wipe_1 : decode cX5_wipe 1 = .ok (.getfield 137, 3) := by decide +kernel
theorem dX5_wipe_4 : decode cX5_wipe 4 = .ok (.istore_n 1, 1) := by decide +kernel
theorem dX5_wipe_5 : decode cX5_wipe 5 = .ok (.aload_n 0, 1) := by decide +kernel
theorem dX5_wipe_6 : decode cX5_wipe 6 = .ok (.iconst 0, 1) := by decide +kernel
theorem dX5_wipe_7 : decode cX5_wipe 7 = .ok (.putfield 137, 3) := by decide +kernel
theorem dX5_wipe_10 : decode cX5_wipe 10 = .ok (.iload_n 1, 1) := by decide +kernel
theorem dX5_wipe_11 : decode cX5_wipe 11 = .ok (.ireturn, 1) := by decide +kernel
set_option maxRecDepth 20000 in
theorem ggX5_isByte_X5_in : GoodIn wsX5_isByte wsX5_in := goodIn_r _ [6] (by decide +kernel) (by decide +kernel)
set_option maxRecDepth 20000 in
theorem gX5_isByte_X5_in : GoodIn wsX5_isByte (va_wsS RX5 41 yX5_in wsX5_in) := goodIn_app (goodIn_of _ (by decide +kernel)) ggX5_isByte_X5_in
theorem dX5_isByte_0 : decode cX5_isByte 0 = .ok (.iload_n 1, 1) := by decide +kernel
theorem dX5_isByte_1 : decode cX5_isByte 1 = .ok (.aload_n 0, 1) := by decide +kernel
theorem dX5_isByte_2 : decode cX5_isByte 2 = .ok (.getfield 137, 3) := by decide +kernel
theorem dX5_isByte_5 : decode cX5_isByte 5 = .ok (.if_icmp .ge 22, 3) := by decide +kernel
theorem dX5_isByte_8 : decode cX5_isByte 8 = .ok (.aload_n 0, 1) := by decide +kernel
theorem dX5_isByte_9 : decode cX5_isByte 9 = .ok (.getfield 22, 3) := by decide +kernel
theorem dX5_isByte_12 : decode cX5_isByte 12 = .ok (.iload_n 1, 1) := by decide +kernel
theorem dX5_isByte_13 : decode cX5_isByte 13 = .ok (.iaload, 1) := by decide +kernel
theorem dX5_isByte_14 : decode cX5_isByte 14 = .ok (.i2l, 1) := by decide +kernel
theorem dX5_isByte_15 : decode cX5_isByte 15 = .ok (.iload_n 2, 1) := by decide +kernel
theorem dX5_isByte_16 : decode cX5_isByte 16 = .ok (.iload_n 3, 1) := by decide +kernel
theorem dX5_isByte_17 : decode cX5_isByte 17 = .ok (.invokestatic 41, 3) := by decide +kernel
theorem dX5_isByte_20 : decode cX5_isByte 20 = .ok (.ifCond .eq 7, 3) := by decide +kernel
theorem dX5_isByte_23 : decode cX5_isByte 23 = .ok (.iconst 1, 1) := by decide +kernel
theorem dX5_isByte_24 : decode cX5_isByte 24 = .ok (.goto 4, 3) := by decide +kernel
theorem dX5_isByte_27 : decode cX5_isByte 27 = .ok (.iconst 0, 1) := by decide +kernel
theorem dX5_isByte_28 : decode cX5_isByte 28 = .ok (.ireturn, 1) := by decide +kernel
theorem dX5_isName_0 : decode cX5_isName 0 = .ok (.iload_n 2, 1) := by decide +kernel
theorem dX5_isName_1 : decode cX5_isName 1 = .ok (.bipush 8, 2) := by decide +kernel
theorem dX5_isName_3 : decode cX5_isName 3 = .ok (.if_icmp .gt 26, 3) := by decide +kernel
theorem dX5_isName_6 : decode cX5_isName 6 = .ok (.iload_n 2, 1) := by decide +kernel
theorem dX5_isName_7 : decode cX5_isName 7 = .ok (.bipush 8, 2) := by decide +kernel
theorem dX5_isName_9 : decode cX5_isName 9 = .ok (.if_icmp .eq 16, 3) := by decide +kernel
theorem dX5_isName_12 : decode cX5_isName 12 = .ok (.getstatic 141, 3) := by decide +kernel
theorem dX5_isName_15 : decode cX5_isName 15 = .ok (.bipush 8, 2) := by decide +kernel
theorem dX5_isName_17 : decode cX5_isName 17 = .ok (.iload_n 1, 1) := by decide +kernel
theorem dX5_isName_18 : decode cX5_isName 18 = .ok (.imul, 1) := by decide +kernel
theorem dX5_isName_19 : decode cX5_isName 19 = .ok (.iload_n 2, 1) := by decide +kernel
theorem dX5_isName_20 : decode cX5_isName 20 = .ok (.iadd, 1) := by decide +kernel
theorem dX5_isName_21 : decode cX5_isName 21 = .ok (.iaload, 1) := by decide +kernel
theorem dX5_isName_22 : decode cX5_isName 22 = .ok (.ifCond .ne 7, 3) := by decide +kernel
theorem dX5_isName_25 : decode cX5_isName 25 = .ok (.iconst 1, 1) := by decide +kernel
theorem dX5_isName_26 : decode cX5_isName 26 = .ok (.goto 4, 3) := by decide +kernel
theorem dX5_isName_29 : decode cX5_isName 29 = .ok (.iconst 0, 1) := by decide +kernel
theorem dX5_isName_30 : decode cX5_isName 30 = .ok (.istore_n 3, 1) := by decide +kernel
theorem dX5_isName_31 : decode cX5_isName 31 = .ok (.iconst 0, 1) := by decide +kernel
theorem dX5_isName_32 : decode cX5_isName 32 = .ok (.istore 4, 2) := by decide +kernel
theorem dX5_isName_34 : decode cX5_isName 34 = .ok (.iload 4, 2) := by decide +kernel
theorem dX5_isName_36 : decode cX5_isName 36 = .ok (.iload_n 2, 1) := by decide +kernel
theorem dX5_isName_37 : decode cX5_isName 37 = .ok (.if_icmp .ge 45, 3) := by decide +kernel
theorem dX5_isName_40 : decode cX5_isName 40 = .ok (.iload_n 3, 1) := by decide +kernel
theorem dX5_isName_41 : decode cX5_isName 41 = .ok (.ifCond .eq 41, 3) := by decide +kernel
theorem dX5_isName_44 : decode cX5_isName 44 = .ok (.getstatic 141, 3) := by decide +kernel
theorem dX5_isName_47 : decode cX5_isName 47 = .ok (.bipush 8, 2) := by decide +kernel
theorem dX5_isName_49 : decode cX5_isName 49 = .ok (.iload_n 1, 1) := by decide +kernel
theorem dX5_isName_50 : decode cX5_isName 50 = .ok (.imul, 1) := by decide +kernel
theorem dX5_isName_51 : decode cX5_isName 51 = .ok (.iload 4, 2) := by decide +kernel
theorem dX5_isName_53 : decode cX5_isName 53 = .ok (.iadd, 1) := by decide +kernel
theorem dX5_isName_54 : decode cX5_isName 54 = .ok (.iaload, 1) := by decide +kernel
theorem dX5_isName_55 : decode cX5_isName 55 = .ok (.aload_n 0, 1) := by decide +kernel
theorem dX5_isName_56 : decode cX5_isName 56 = .ok (.getfield 22, 3) := by decide +kernel
theorem dX5_isName_59 : decode cX5_isName 59 = .ok (.aload_n 0, 1) := by decide +kernel
theorem dX5_isName_60 : decode cX5_isName 60 = .ok (.getfield 144, 3) := by decide +kernel
theorem dX5_isName_63 : decode cX5_isName 63 = .ok (.iload 4, 2) := by decide +kernel
theorem dX5_isName_65 : decode cX5_isName 65 = .ok (.iadd, 1) := by decide +kernel
theorem dX5_isName_66 : decode cX5_isName 66 = .ok (.iaload, 1) := by decide +kernel
theorem dX5_isName_67 : decode cX5_isName 67 = .ok (.if_icmp .ne 7, 3) := by decide +kernel
theorem dX5_isName_70 : decode cX5_isName 70 = .ok (.iconst 1, 1) := by decide +kernel
theorem dX5_isName_71 : decode cX5_isName 71 = .ok (.goto 4, 3) := by decide +kernel
theorem dX5_isName_74 : decode cX5_isName 74 = .ok (.iconst 0, 1) := by decide +kernel
theorem dX5_isName_75 : decode cX5_isName 75 = .ok (.istore_n 3, 1) := by decide +kernel
theorem dX5_isName_76 : decode cX5_isName 76 = .ok (.iinc 4 1, 3) := by decide +kernel
theorem dX5_isName_79 : decode cX5_isName 79 = .ok (.goto (-45), 3) := by decide +kernel
theorem dX5_isName_82 : decode cX5_isName 82 = .ok (.iload_n 3, 1) := by decide +kernel
theorem dX5_isName_83 : decode cX5_isName 83 = .ok (.ireturn, 1) := by decide +kernel
set_option maxRecDepth 20000 in
theorem ggX5_wordHere_X5_isName : GoodIn wsX5_wordHere wsX5_isName := goodIn_r _ [7, 8, 9, 2, 10, 11, 12, 13, 14, 15, 16, 17, 18, 19, 20, 21, 22, 23, 24] (by decide +kernel) (by decide +kernel)
set_option maxRecDepth 20000 in
theorem gX5_wordHere_X5_isName : GoodIn wsX5_wordHere (wsV RX5 150 RX5 yX5_isName wsX5_isName) := goodIn_app (goodIn_of _ (by decide +kernel)) ggX5_wordHere_X5_isName
theorem dX5_wordHere_0 : decode cX5_wordHere 0 = .ok (.iconst 0, 1) := by decide +kernel
theorem dX5_wordHere_1 : decode cX5_wordHere 1 = .ok (.istore_n 1, 1) := by decide +kernel
theorem dX5_wordHere_2 : decode cX5_wordHere 2 = .ok (.iload_n 1, 1) := by decide +kernel
theorem dX5_wordHere_3 : decode cX5_wordHere 3 = .ok (.bipush 10, 2) := by decide +kernel
theorem dX5_wordHere_5 : decode cX5_wordHere 5 = .ok (.if_icmp .ge 26, 3) := by decide +kernel
theorem dX5_wordHere_8 : decode cX5_wordHere 8 = .ok (.aload_n 0, 1) := by decide +kernel
theorem dX5_wordHere_9 : decode cX5_wordHere 9 = .ok (.iload_n 1, 1) := by decide +kernel
theorem dX5_wordHere_10 : decode cX5_wordHere 10 = .ok (.aload_n 0, 1) := by decide +kernel
theorem dX5_wordHere_11 : decode cX5_wordHere 11 = .ok (.getfield 147, 3) := by decide +kernel
theorem dX5_wordHere_14 : decode cX5_wordHere 14 = .ok (.aload_n 0, 1) := by decide +kernel
theorem dX5_wordHere_15 : decode cX5_wordHere 15 = .ok (.getfield 144, 3) := by decide +kernel
theorem dX5_wordHere_18 : decode cX5_wordHere 18 = .ok (.isub, 1) := by decide +kernel
theorem dX5_wordHere_19 : decode cX5_wordHere 19 = .ok (.invokevirtual 150, 3) := by decide +kernel
theorem dX5_wordHere_22 : decode cX5_wordHere 22 = .ok (.ifCond .ne 9, 3) := by decide +kernel
theorem dX5_wordHere_25 : decode cX5_wordHere 25 = .ok (.iinc 1 1, 3) := by decide +kernel
theorem dX5_wordHere_28 : decode cX5_wordHere 28 = .ok (.goto (-26), 3) := by decide +kernel
theorem dX5_wordHere_31 : decode cX5_wordHere 31 = .ok (.iload_n 1, 1) := by decide +kernel
theorem dX5_wordHere_32 : decode cX5_wordHere 32 = .ok (.bipush 10, 2) := by decide +kernel
theorem dX5_wordHere_34 : decode cX5_wordHere 34 = .ok (.if_icmp .ge 7, 3) := by decide +kernel
theorem dX5_wordHere_37 : decode cX5_wordHere 37 = .ok (.iload_n 1, 1) := by decide +kernel
theorem dX5_wordHere_38 : decode cX5_wordHere 38 = .ok (.goto 5, 3) := by decide +kernel
theorem dX5_wordHere_41 : decode cX5_wordHere 41 = .ok (.bipush 23, 2) := by decide +kernel
theorem dX5_wordHere_43 : decode cX5_wordHere 43 = .ok (.ireturn, 1) := by decide +kernel
set_option maxRecDepth 20000 in
theorem ggX5_reads_X5_isByte : GoodIn wsX5_reads wsX5_isByte := goodIn_r _ [11, 4, 6, 12, 13, 10, 14, 24, 25, 26, 27, 28, 29, 30, 31, 32, 33, 34, 35, 36, 37, 38] (by decide +kernel) (by decide +kernel)
set_option maxRecDepth 20000 in
theorem gX5_reads_X5_isByte : GoodIn wsX5_reads (wsV RX5 153 RX5 yX5_isByte wsX5_isByte) := goodIn_app (goodIn_of _ (by decide +kernel)) ggX5_reads_X5_isByte
set_option maxRecDepth 20000 in
theorem ggX5_reads_X5_wordHere : GoodIn wsX5_reads wsX5_wordHere := goodIn_r _ [18, 1, 2, 19, 20, 21, 10, 22, 23, 6, 24, 25, 26, 27, 28, 29, 30, 31, 32, 33, 34, 35, 36, 37, 38] (by decide +kernel) (by decide +kernel)
set_option maxRecDepth 20000 in
theorem gX5_reads_X5_wordHere : GoodIn wsX5_reads (wsV RX5 163 RX5 yX5_wordHere wsX5_wordHere) := goodIn_app (goodIn_of _ (by decide +kernel)) ggX5_reads_X5_wordHere
theorem dX5_reads_0 : decode cX5_reads 0 = .ok (.aload_n 0, 1) := by decide +kernel
theorem dX5_reads_1 : decode cX5_reads 1 = .ok (.aload_n 0, 1) := by decide +kernel
theorem dX5_reads_2 : decode cX5_reads 2 = .ok (.getfield 147, 3) := by decide +kernel
theorem dX5_reads_5 : decode cX5_reads 5 = .ok (.bipush 32, 2) := by decide +kernel
theorem dX5_reads_7 : decode cX5_reads 7 = .ok (.bipush 32, 2) := by decide +kernel
theorem dX5_reads_9 : decode cX5_reads 9 = .ok (.invokevirtual 153, 3) := by decide +kernel
theorem dX5_reads_12 : decode cX5_reads 12 = .ok (.ifCond .eq 16, 3) := by decide +kernel
theorem dX5_reads_15 : decode cX5_reads 15 = .ok (.aload_n 0, 1) := by decide +kernel
theorem dX5_reads_16 : decode cX5_reads 16 = .ok (.dup, 1) := by decide +kernel
theorem dX5_reads_17 : decode cX5_reads 17 = .ok (.getfield 147, 3) := by decide +kernel
theorem dX5_reads_20 : decode cX5_reads 20 = .ok (.iconst 1, 1) := by decide +kernel
theorem dX5_reads_21 : decode cX5_reads 21 = .ok (.iadd, 1) := by decide +kernel
theorem dX5_reads_22 : decode cX5_reads 22 = .ok (.putfield 147, 3) := by decide +kernel
theorem dX5_reads_25 : decode cX5_reads 25 = .ok (.goto (-25), 3) := by decide +kernel
theorem dX5_reads_28 : decode cX5_reads 28 = .ok (.aload_n 0, 1) := by decide +kernel
theorem dX5_reads_29 : decode cX5_reads 29 = .ok (.aload_n 0, 1) := by decide +kernel
theorem dX5_reads_30 : decode cX5_reads 30 = .ok (.getfield 147, 3) := by decide +kernel
theorem dX5_reads_33 : decode cX5_reads 33 = .ok (.putfield 144, 3) := by decide +kernel
theorem dX5_reads_36 : decode cX5_reads 36 = .ok (.aload_n 0, 1) := by decide +kernel
theorem dX5_reads_37 : decode cX5_reads 37 = .ok (.iconst 0, 1) := by decide +kernel
theorem dX5_reads_38 : decode cX5_reads 38 = .ok (.putfield 157, 3) := by decide +kernel
theorem dX5_reads_41 : decode cX5_reads 41 = .ok (.aload_n 0, 1) := by decide +kernel
theorem dX5_reads_42 : decode cX5_reads 42 = .ok (.getfield 147, 3) := by decide +kernel
theorem dX5_reads_45 : decode cX5_reads 45 = .ok (.aload_n 0, 1) := by decide +kernel
theorem dX5_reads_46 : decode cX5_reads 46 = .ok (.getfield 137, 3) := by decide +kernel
theorem dX5_reads_49 : decode cX5_reads 49 = .ok (.if_icmp .ne 12, 3) := by decide +kernel
theorem dX5_reads_52 : decode cX5_reads 52 = .ok (.aload_n 0, 1) := by decide +kernel
theorem dX5_reads_53 : decode cX5_reads 53 = .ok (.bipush 22, 2) := by decide +kernel
theorem dX5_reads_55 : decode cX5_reads 55 = .ok (.putfield 160, 3) := by decide +kernel
theorem dX5_reads_58 : decode cX5_reads 58 = .ok (.goto 186, 3) := by decide +kernel
theorem dX5_reads_61 : decode cX5_reads 61 = .ok (.aload_n 0, 1) := by decide +kernel
theorem dX5_reads_62 : decode cX5_reads 62 = .ok (.aload_n 0, 1) := by decide +kernel
theorem dX5_reads_63 : decode cX5_reads 63 = .ok (.getfield 147, 3) := by decide +kernel
theorem dX5_reads_66 : decode cX5_reads 66 = .ok (.bipush 97, 2) := by decide +kernel
theorem dX5_reads_68 : decode cX5_reads 68 = .ok (.bipush 122, 2) := by decide +kernel
theorem dX5_reads_70 : decode cX5_reads 70 = .ok (.invokevirtual 153, 3) := by decide +kernel
theorem dX5_reads_73 : decode cX5_reads 73 = .ok (.ifCond .eq 42, 3) := by decide +kernel
theorem dX5_reads_76 : decode cX5_reads 76 = .ok (.aload_n 0, 1) := by decide +kernel
theorem dX5_reads_77 : decode cX5_reads 77 = .ok (.aload_n 0, 1) := by decide +kernel
theorem dX5_reads_78 : decode cX5_reads 78 = .ok (.getfield 147, 3) := by decide +kernel
theorem dX5_reads_81 : decode cX5_reads 81 = .ok (.bipush 97, 2) := by decide +kernel
theorem dX5_reads_83 : decode cX5_reads 83 = .ok (.bipush 122, 2) := by decide +kernel
theorem dX5_reads_85 : decode cX5_reads 85 = .ok (.invokevirtual 153, 3) := by decide +kernel
theorem dX5_reads_88 : decode cX5_reads 88 = .ok (.ifCond .eq 16, 3) := by decide +kernel
theorem dX5_reads_91 : decode cX5_reads 91 = .ok (.aload_n 0, 1) := by decide +kernel
theorem dX5_reads_92 : decode cX5_reads 92 = .ok (.dup, 1) := by decide +kernel
theorem dX5_reads_93 : decode cX5_reads 93 = .ok (.getfield 147, 3) := by decide +kernel
theorem dX5_reads_96 : decode cX5_reads 96 = .ok (.iconst 1, 1) := by decide +kernel
theorem dX5_reads_97 : decode cX5_reads 97 = .ok (.iadd, 1) := by decide +kernel
theorem dX5_reads_98 : decode cX5_reads 98 = .ok (.putfield 147, 3) := by decide +kernel
theorem dX5_reads_101 : decode cX5_reads 101 = .ok (.goto (-25), 3) := by decide +kernel
theorem dX5_reads_104 : decode cX5_reads 104 = .ok (.aload_n 0, 1) := by decide +kernel
theorem dX5_reads_105 : decode cX5_reads 105 = .ok (.aload_n 0, 1) := by decide +kernel
theorem dX5_reads_106 : decode cX5_reads 106 = .ok (.invokevirtual 163, 3) := by decide +kernel
theorem dX5_reads_109 : decode cX5_reads 109 = .ok (.putfield 160, 3) := by decide +kernel
theorem dX5_reads_112 : decode cX5_reads 112 = .ok (.goto 132, 3) := by decide +kernel
theorem dX5_reads_115 : decode cX5_reads 115 = .ok (.aload_n 0, 1) := by decide +kernel
theorem dX5_reads_116 : decode cX5_reads 116 = .ok (.aload_n 0, 1) := by decide +kernel
theorem dX5_reads_117 : decode cX5_reads 117 = .ok (.getfield 147, 3) := by decide +kernel
theorem dX5_reads_120 : decode cX5_reads 120 = .ok (.bipush 48, 2) := by decide +kernel
theorem dX5_reads_122 : decode cX5_reads 122 = .ok (.bipush 57, 2) := by decide +kernel
theorem dX5_reads_124 : decode cX5_reads 124 = .ok (.invokevirtual 153, 3) := by decide +kernel
theorem dX5_reads_127 : decode cX5_reads 127 = .ok (.ifCond .eq 81, 3) := by decide +kernel
theorem dX5_reads_130 : decode cX5_reads 130 = .ok (.aload_n 0, 1) := by decide +kernel
theorem dX5_reads_131 : decode cX5_reads 131 = .ok (.aload_n 0, 1) := by decide +kernel
theorem dX5_reads_132 : decode cX5_reads 132 = .ok (.getfield 147, 3) := by decide +kernel
theorem dX5_reads_135 : decode cX5_reads 135 = .ok (.bipush 48, 2) := by decide +kernel
theorem dX5_reads_137 : decode cX5_reads 137 = .ok (.bipush 57, 2) := by decide +kernel
theorem dX5_reads_139 : decode cX5_reads 139 = .ok (.invokevirtual 153, 3) := by decide +kernel
theorem dX5_reads_142 : decode cX5_reads 142 = .ok (.ifCond .eq 57, 3) := by decide +kernel
theorem dX5_reads_145 : decode cX5_reads 145 = .ok (.aload_n 0, 1) := by decide +kernel
theorem dX5_reads_146 : decode cX5_reads 146 = .ok (.aload_n 0, 1) := by decide +kernel
theorem dX5_reads_147 : decode cX5_reads 147 = .ok (.getfield 157, 3) := by decide +kernel
theorem dX5_reads_150 : decode cX5_reads 150 = .ok (.sipush 999, 3) := by decide +kernel
theorem dX5_reads_153 : decode cX5_reads 153 = .ok (.if_icmp .le 10, 3) := by decide +kernel
theorem dX5_reads_156 : decode cX5_reads 156 = .ok (.aload_n 0, 1) := by decide +kernel
theorem dX5_reads_157 : decode cX5_reads 157 = .ok (.getfield 157, 3) := by decide +kernel
theorem dX5_reads_160 : decode cX5_reads 160 = .ok (.goto 23, 3) := by decide +kernel
theorem dX5_reads_163 : decode cX5_reads 163 = .ok (.bipush 10, 2) := by decide +kernel
theorem dX5_reads_165 : decode cX5_reads 165 = .ok (.aload_n 0, 1) := by decide +kernel
theorem dX5_reads_166 : decode cX5_reads 166 = .ok (.getfield 157, 3) := by decide +kernel
theorem dX5_reads_169 : decode cX5_reads 169 = .ok (.imul, 1) := by decide +kernel
theorem dX5_reads_170 : decode cX5_reads 170 = .ok (.aload_n 0, 1) := by decide +kernel
theorem dX5_reads_171 : decode cX5_reads 171 = .ok (.getfield 22, 3) := by decide +kernel
theorem dX5_reads_174 : decode cX5_reads 174 = .ok (.aload_n 0, 1) := by decide +kernel
theorem dX5_reads_175 : decode cX5_reads 175 = .ok (.getfield 147, 3) := by decide +kernel
theorem dX5_reads_178 : decode cX5_reads 178 = .ok (.iaload, 1) := by decide +kernel
theorem dX5_reads_179 : decode cX5_reads 179 = .ok (.iadd, 1) := by decide +kernel
theorem dX5_reads_180 : decode cX5_reads 180 = .ok (.bipush 48, 2) := by decide +kernel
theorem dX5_reads_182 : decode cX5_reads 182 = .ok (.isub, 1) := by decide +kernel
theorem dX5_reads_183 : decode cX5_reads 183 = .ok (.putfield 157, 3) := by decide +kernel
theorem dX5_reads_186 : decode cX5_reads 186 = .ok (.aload_n 0, 1) := by decide +kernel
theorem dX5_reads_187 : decode cX5_reads 187 = .ok (.dup, 1) := by decide +kernel
theorem dX5_reads_188 : decode cX5_reads 188 = .ok (.getfield 147, 3) := by decide +kernel
theorem dX5_reads_191 : decode cX5_reads 191 = .ok (.iconst 1, 1) := by decide +kernel
theorem dX5_reads_192 : decode cX5_reads 192 = .ok (.iadd, 1) := by decide +kernel
theorem dX5_reads_193 : decode cX5_reads 193 = .ok (.putfield 147, 3) := by decide +kernel
theorem dX5_reads_196 : decode cX5_reads 196 = .ok (.goto (-66), 3) := by decide +kernel
theorem dX5_reads_199 : decode cX5_reads 199 = .ok (.aload_n 0, 1) := by decide +kernel
theorem dX5_reads_200 : decode cX5_reads 200 = .ok (.bipush 20, 2) := by decide +kernel
theorem dX5_reads_202 : decode cX5_reads 202 = .ok (.putfield 160, 3) := by decide +kernel
theorem dX5_reads_205 : decode cX5_reads 205 = .ok (.goto 39, 3) := by decide +kernel
theorem dX5_reads_208 : decode cX5_reads 208 = .ok (.aload_n 0, 1) := by decide +kernel
theorem dX5_reads_209 : decode cX5_reads 209 = .ok (.aload_n 0, 1) := by decide +kernel
theorem dX5_reads_210 : decode cX5_reads 210 = .ok (.aload_n 0, 1) := by decide +kernel
theorem dX5_reads_211 : decode cX5_reads 211 = .ok (.getfield 147, 3) := by decide +kernel
theorem dX5_reads_214 : decode cX5_reads 214 = .ok (.bipush 59, 2) := by decide +kernel
theorem dX5_reads_216 : decode cX5_reads 216 = .ok (.bipush 59, 2) := by decide +kernel
theorem dX5_reads_218 : decode cX5_reads 218 = .ok (.invokevirtual 153, 3) := by decide +kernel
theorem dX5_reads_221 : decode cX5_reads 221 = .ok (.ifCond .eq 8, 3) := by decide +kernel
theorem dX5_reads_224 : decode cX5_reads 224 = .ok (.bipush 21, 2) := by decide +kernel
theorem dX5_reads_226 : decode cX5_reads 226 = .ok (.goto 5, 3) := by decide +kernel
theorem dX5_reads_229 : decode cX5_reads 229 = .ok (.bipush 23, 2) := by decide +kernel
theorem dX5_reads_231 : decode cX5_reads 231 = .ok (.putfield 160, 3) := by decide +kernel
theorem dX5_reads_234 : decode cX5_reads 234 = .ok (.aload_n 0, 1) := by decide +kernel
theorem dX5_reads_235 : decode cX5_reads 235 = .ok (.dup, 1) := by decide +kernel
theorem dX5_reads_236 : decode cX5_reads 236 = .ok (.getfield 147, 3) := by decide +kernel
theorem dX5_reads_239 : decode cX5_reads 239 = .ok (.iconst 1, 1) := by decide +kernel
theorem dX5_reads_240 : decode cX5_reads 240 = .ok (.iadd, 1) := by decide +kernel
theorem dX5_reads_241 : decode cX5_reads 241 = .ok (.putfield 147, 3) := by decide +kernel
theorem dX5_reads_244 : decode cX5_reads 244 = .ok (.return_, 1) := by decide +kernel
