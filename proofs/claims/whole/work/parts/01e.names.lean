set_option maxRecDepth 20000 in
theorem ggX5_passes_X5_reads : GoodIn wsX5_passes wsX5_reads := goodIn_r _ [7, 8, 9, 10, 11, 2, 12, 13, 14, 15, 6, 16, 17, 18, 19, 20, 21, 22, 23, 24, 25, 26, 27, 28, 29, 30, 31, 32, 33, 34, 35, 36, 37, 38, 39, 40, 41, 42, 43] (by decide +kernel) (by decide +kernel)
set_option maxRecDepth 20000 in
theorem gX5_passes_X5_reads : GoodIn wsX5_passes (wsV RX5 170 RX5 yX5_reads wsX5_reads) := goodIn_app (goodIn_of _ (by decide +kernel)) ggX5_passes_X5_reads
theorem dX5_passes_0 : decode cX5_passes 0 = .ok (.aload_n 0, 1) := by decide +kernel
theorem dX5_passes_1 : decode cX5_passes 1 = .ok (.getfield 166, 3) := by decide +kernel
theorem dX5_passes_4 : decode cX5_passes 4 = .ok (.ifCond .ne 11, 3) := by decide +kernel
theorem dX5_passes_7 : decode cX5_passes 7 = .ok (.aload_n 0, 1) := by decide +kernel
theorem dX5_passes_8 : decode cX5_passes 8 = .ok (.getfield 160, 3) := by decide +kernel
theorem dX5_passes_11 : decode cX5_passes 11 = .ok (.iload_n 1, 1) := by decide +kernel
theorem dX5_passes_12 : decode cX5_passes 12 = .ok (.if_icmp .eq 5, 3) := by decide +kernel
theorem dX5_passes_15 : decode cX5_passes 15 = .ok (.iconst 0, 1) := by decide +kernel
theorem dX5_passes_16 : decode cX5_passes 16 = .ok (.ireturn, 1) := by decide +kernel
theorem dX5_passes_17 : decode cX5_passes 17 = .ok (.aload_n 0, 1) := by decide +kernel
theorem dX5_passes_18 : decode cX5_passes 18 = .ok (.invokevirtual 170, 3) := by decide +kernel
theorem dX5_passes_21 : decode cX5_passes 21 = .ok (.iconst 1, 1) := by decide +kernel
theorem dX5_passes_22 : decode cX5_passes 22 = .ok (.ireturn, 1) := by decide +kernel
set_option maxRecDepth 20000 in
theorem ggX5_number_X5_in : GoodIn wsX5_number wsX5_in := goodIn_r _ [7] (by decide +kernel) (by decide +kernel)
set_option maxRecDepth 20000 in
theorem gX5_number_X5_in : GoodIn wsX5_number (va_wsS RX5 41 yX5_in wsX5_in) := goodIn_app (goodIn_of _ (by decide +kernel)) ggX5_number_X5_in
set_option maxRecDepth 20000 in
theorem ggX5_number_X5_reads : GoodIn wsX5_number wsX5_reads := goodIn_r _ [11, 12, 13, 1, 14, 3, 15, 16, 17, 18, 6, 19, 4, 5, 7, 20, 21, 22, 23, 24, 25, 26, 27, 28, 29, 30, 31, 32, 33, 34, 35, 36, 37, 38, 39, 40, 41, 42, 43] (by decide +kernel) (by decide +kernel)
set_option maxRecDepth 20000 in
theorem gX5_number_X5_reads : GoodIn wsX5_number (wsV RX5 170 RX5 yX5_reads wsX5_reads) := goodIn_app (goodIn_of _ (by decide +kernel)) ggX5_number_X5_reads
theorem dX5_number_0 : decode cX5_number 0 = .ok (.aload_n 0, 1) := by decide +kernel
theorem dX5_number_1 : decode cX5_number 1 = .ok (.getfield 157, 3) := by decide +kernel
theorem dX5_number_4 : decode cX5_number 4 = .ok (.istore_n 3, 1) := by decide +kernel
theorem dX5_number_5 : decode cX5_number 5 = .ok (.aload_n 0, 1) := by decide +kernel
theorem dX5_number_6 : decode cX5_number 6 = .ok (.aload_n 0, 1) := by decide +kernel
theorem dX5_number_7 : decode cX5_number 7 = .ok (.getfield 166, 3) := by decide +kernel
theorem dX5_number_10 : decode cX5_number 10 = .ok (.ifCond .ne 22, 3) := by decide +kernel
theorem dX5_number_13 : decode cX5_number 13 = .ok (.aload_n 0, 1) := by decide +kernel
theorem dX5_number_14 : decode cX5_number 14 = .ok (.getfield 160, 3) := by decide +kernel
theorem dX5_number_17 : decode cX5_number 17 = .ok (.bipush 20, 2) := by decide +kernel
theorem dX5_number_19 : decode cX5_number 19 = .ok (.if_icmp .ne 13, 3) := by decide +kernel
theorem dX5_number_22 : decode cX5_number 22 = .ok (.iload_n 3, 1) := by decide +kernel
theorem dX5_number_23 : decode cX5_number 23 = .ok (.i2l, 1) := by decide +kernel
theorem dX5_number_24 : decode cX5_number 24 = .ok (.iload_n 1, 1) := by decide +kernel
theorem dX5_number_25 : decode cX5_number 25 = .ok (.iload_n 2, 1) := by decide +kernel
theorem dX5_number_26 : decode cX5_number 26 = .ok (.invokestatic 41, 3) := by decide +kernel
theorem dX5_number_29 : decode cX5_number 29 = .ok (.ifCond .ne 7, 3) := by decide +kernel
theorem dX5_number_32 : decode cX5_number 32 = .ok (.iconst 1, 1) := by decide +kernel
theorem dX5_number_33 : decode cX5_number 33 = .ok (.goto 4, 3) := by decide +kernel
theorem dX5_number_36 : decode cX5_number 36 = .ok (.iconst 0, 1) := by decide +kernel
theorem dX5_number_37 : decode cX5_number 37 = .ok (.putfield 166, 3) := by decide +kernel
theorem dX5_number_40 : decode cX5_number 40 = .ok (.aload_n 0, 1) := by decide +kernel
theorem dX5_number_41 : decode cX5_number 41 = .ok (.getfield 166, 3) := by decide +kernel
theorem dX5_number_44 : decode cX5_number 44 = .ok (.ifCond .ne 7, 3) := by decide +kernel
theorem dX5_number_47 : decode cX5_number 47 = .ok (.aload_n 0, 1) := by decide +kernel
theorem dX5_number_48 : decode cX5_number 48 = .ok (.invokevirtual 170, 3) := by decide +kernel
theorem dX5_number_51 : decode cX5_number 51 = .ok (.iload_n 3, 1) := by decide +kernel
theorem dX5_number_52 : decode cX5_number 52 = .ok (.ireturn, 1) := by decide +kernel
set_option maxRecDepth 20000 in
theorem ggX5_perhaps_X5_passes : GoodIn wsX5_perhaps wsX5_passes := goodIn_r _ [5, 6, 7, 8, 9, 10, 4, 11, 12, 13, 14, 15, 16, 17, 18, 19, 20, 21, 22, 23, 24, 25, 26, 27, 28, 29, 30, 31, 32, 37, 38, 39, 40, 41, 42, 43, 44, 45, 46, 47, 48, 49, 50, 51] (by decide +kernel) (by decide +kernel)
set_option maxRecDepth 20000 in
theorem gX5_perhaps_X5_passes : GoodIn wsX5_perhaps (wsV RX5 173 RX5 yX5_passes wsX5_passes) := goodIn_app (goodIn_of _ (by decide +kernel)) ggX5_perhaps_X5_passes
set_option maxRecDepth 20000 in
theorem ggX5_perhaps_X5_number : GoodIn wsX5_perhaps wsX5_number := goodIn_r _ [36, 14, 6, 7, 21, 22, 4, 23, 8, 9, 10, 11, 12, 13, 15, 16, 17, 18, 19, 20, 24, 25, 26, 27, 28, 29, 30, 31, 32, 37, 38, 39, 40, 41, 42, 43, 44, 45, 46, 47, 48, 49, 50, 51] (by decide +kernel) (by decide +kernel)
set_option maxRecDepth 20000 in
theorem gX5_perhaps_X5_number : GoodIn wsX5_perhaps (wsV RX5 176 RX5 yX5_number wsX5_number) := goodIn_app (goodIn_of _ (by decide +kernel)) ggX5_perhaps_X5_number
theorem dX5_perhaps_0 : decode cX5_perhaps 0 = .ok (.aload_n 0, 1) := by decide +kernel
theorem dX5_perhaps_1 : decode cX5_perhaps 1 = .ok (.iload_n 1, 1) := by decide +kernel
theorem dX5_perhaps_2 : decode cX5_perhaps 2 = .ok (.invokevirtual 173, 3) := by decide +kernel
theorem dX5_perhaps_5 : decode cX5_perhaps 5 = .ok (.ifCond .eq 12, 3) := by decide +kernel
theorem dX5_perhaps_8 : decode cX5_perhaps 8 = .ok (.aload_n 0, 1) := by decide +kernel
theorem dX5_perhaps_9 : decode cX5_perhaps 9 = .ok (.iload_n 2, 1) := by decide +kernel
theorem dX5_perhaps_10 : decode cX5_perhaps 10 = .ok (.iload_n 3, 1) := by decide +kernel
theorem dX5_perhaps_11 : decode cX5_perhaps 11 = .ok (.invokevirtual 176, 3) := by decide +kernel
theorem dX5_perhaps_14 : decode cX5_perhaps 14 = .ok (.goto 5, 3) := by decide +kernel
theorem dX5_perhaps_17 : decode cX5_perhaps 17 = .ok (.iload 4, 2) := by decide +kernel
theorem dX5_perhaps_19 : decode cX5_perhaps 19 = .ok (.ireturn, 1) := by decide +kernel
set_option maxRecDepth 20000 in
theorem ggX5_personItem_X5_reads : GoodIn wsX5_personItem wsX5_reads := goodIn_r _ [8, 9, 10, 11, 12, 1, 13, 14, 15, 16, 7, 17, 18, 19, 20, 21, 22, 23, 24, 25, 26, 27, 28, 29, 50, 51, 52, 53, 54, 55, 56, 57, 58, 59, 60, 61, 62, 63, 64] (by decide +kernel) (by decide +kernel)
set_option maxRecDepth 20000 in
theorem gX5_personItem_X5_reads : GoodIn wsX5_personItem (wsV RX5 170 RX5 yX5_reads wsX5_reads) := goodIn_app (goodIn_of _ (by decide +kernel)) ggX5_personItem_X5_reads
set_option maxRecDepth 20000 in
theorem ggX5_personItem_X5_number : GoodIn wsX5_personItem wsX5_number := goodIn_r _ [33, 11, 3, 1, 18, 19, 7, 20, 4, 5, 6, 8, 9, 10, 12, 13, 14, 15, 16, 17, 21, 22, 23, 24, 25, 26, 27, 28, 29, 50, 51, 52, 53, 54, 55, 56, 57, 58, 59, 60, 61, 62, 63, 64] (by decide +kernel) (by decide +kernel)
set_option maxRecDepth 20000 in
theorem gX5_personItem_X5_number : GoodIn wsX5_personItem (wsV RX5 176 RX5 yX5_number wsX5_number) := goodIn_app (goodIn_of _ (by decide +kernel)) ggX5_personItem_X5_number
set_option maxRecDepth 20000 in
theorem ggX5_personItem_X5_perhaps : GoodIn wsX5_personItem wsX5_perhaps := goodIn_r _ [37, 38, 39, 40, 7, 41, 3, 1, 4, 5, 6, 8, 9, 10, 11, 12, 13, 14, 15, 16, 17, 18, 19, 20, 21, 22, 23, 24, 25, 26, 27, 28, 29, 30, 31, 32, 33, 50, 51, 52, 53, 54, 55, 56, 57, 58, 59, 60, 61, 62, 63, 64] (by decide +kernel) (by decide +kernel)
set_option maxRecDepth 20000 in
theorem gX5_personItem_X5_perhaps : GoodIn wsX5_personItem (wsV RX5 179 RX5 yX5_perhaps wsX5_perhaps) := goodIn_app (goodIn_of _ (by decide +kernel)) ggX5_personItem_X5_perhaps
set_option maxRecDepth 20000 in
theorem ggX5_personItem_X5_passes : GoodIn wsX5_personItem wsX5_passes := goodIn_r _ [41, 3, 1, 4, 5, 6, 7, 8, 9, 10, 11, 12, 13, 14, 15, 16, 17, 18, 19, 20, 21, 22, 23, 24, 25, 26, 27, 28, 29, 50, 51, 52, 53, 54, 55, 56, 57, 58, 59, 60, 61, 62, 63, 64] (by decide +kernel) (by decide +kernel)
set_option maxRecDepth 20000 in
theorem gX5_personItem_X5_passes : GoodIn wsX5_personItem (wsV RX5 173 RX5 yX5_passes wsX5_passes) := goodIn_app (goodIn_of _ (by decide +kernel)) ggX5_personItem_X5_passes
set_option maxRecDepth 20000 in
theorem ggX5_personItem_X5_comesAs : GoodIn wsX5_personItem wsX5_comesAs := goodIn_r _ [45, 2, 46, 47, 48, 7, 49, 50, 51, 52, 53, 54, 55, 56, 57, 58, 59, 60, 61, 62, 63, 64] (by decide +kernel) (by decide +kernel)
set_option maxRecDepth 20000 in
theorem gX5_personItem_X5_comesAs : GoodIn wsX5_personItem (wsV RX5 71 RX5 yX5_comesAs wsX5_comesAs) := goodIn_app (goodIn_of _ (by decide +kernel)) ggX5_personItem_X5_comesAs
theorem dX5_personItem_0 : decode cX5_personItem 0 = .ok (.aload_n 0, 1) := by decide +kernel
theorem dX5_personItem_1 : decode cX5_personItem 1 = .ok (.getfield 160, 3) := by decide +kernel
theorem dX5_personItem_4 : decode cX5_personItem 4 = .ok (.istore_n 1, 1) := by decide +kernel
theorem dX5_personItem_5 : decode cX5_personItem 5 = .ok (.aload_n 0, 1) := by decide +kernel
theorem dX5_personItem_6 : decode cX5_personItem 6 = .ok (.aload_n 0, 1) := by decide +kernel
theorem dX5_personItem_7 : decode cX5_personItem 7 = .ok (.getfield 9, 3) := by decide +kernel
theorem dX5_personItem_10 : decode cX5_personItem 10 = .ok (.iconst 4, 1) := by decide +kernel
theorem dX5_personItem_11 : decode cX5_personItem 11 = .ok (.iaload, 1) := by decide +kernel
theorem dX5_personItem_12 : decode cX5_personItem 12 = .ok (.bipush 8, 2) := by decide +kernel
theorem dX5_personItem_14 : decode cX5_personItem 14 = .ok (.if_icmp .ne 7, 3) := by decide +kernel
theorem dX5_personItem_17 : decode cX5_personItem 17 = .ok (.iconst 1, 1) := by decide +kernel
theorem dX5_personItem_18 : decode cX5_personItem 18 = .ok (.goto 4, 3) := by decide +kernel
theorem dX5_personItem_21 : decode cX5_personItem 21 = .ok (.iconst 0, 1) := by decide +kernel
theorem dX5_personItem_22 : decode cX5_personItem 22 = .ok (.putfield 166, 3) := by decide +kernel
theorem dX5_personItem_25 : decode cX5_personItem 25 = .ok (.aload_n 0, 1) := by decide +kernel
theorem dX5_personItem_26 : decode cX5_personItem 26 = .ok (.getfield 166, 3) := by decide +kernel
theorem dX5_personItem_29 : decode cX5_personItem 29 = .ok (.ifCond .eq 4, 3) := by decide +kernel
theorem dX5_personItem_32 : decode cX5_personItem 32 = .ok (.return_, 1) := by decide +kernel
theorem dX5_personItem_33 : decode cX5_personItem 33 = .ok (.aload_n 0, 1) := by decide +kernel
theorem dX5_personItem_34 : decode cX5_personItem 34 = .ok (.invokevirtual 170, 3) := by decide +kernel
theorem dX5_personItem_37 : decode cX5_personItem 37 = .ok (.aload_n 0, 1) := by decide +kernel
theorem dX5_personItem_38 : decode cX5_personItem 38 = .ok (.iconst 0, 1) := by decide +kernel
theorem dX5_personItem_39 : decode cX5_personItem 39 = .ok (.sipush 999, 3) := by decide +kernel
theorem dX5_personItem_42 : decode cX5_personItem 42 = .ok (.invokevirtual 176, 3) := by decide +kernel
theorem dX5_personItem_45 : decode cX5_personItem 45 = .ok (.istore_n 2, 1) := by decide +kernel
theorem dX5_personItem_46 : decode cX5_personItem 46 = .ok (.aload_n 0, 1) := by decide +kernel
theorem dX5_personItem_47 : decode cX5_personItem 47 = .ok (.bipush 6, 2) := by decide +kernel
theorem dX5_personItem_49 : decode cX5_personItem 49 = .ok (.iconst 0, 1) := by decide +kernel
theorem dX5_personItem_50 : decode cX5_personItem 50 = .ok (.bipush 9, 2) := by decide +kernel
theorem dX5_personItem_52 : decode cX5_personItem 52 = .ok (.iconst 0, 1) := by decide +kernel
theorem dX5_personItem_53 : decode cX5_personItem 53 = .ok (.invokevirtual 179, 3) := by decide +kernel
theorem dX5_personItem_56 : decode cX5_personItem 56 = .ok (.istore_n 3, 1) := by decide +kernel
theorem dX5_personItem_57 : decode cX5_personItem 57 = .ok (.aload_n 0, 1) := by decide +kernel
theorem dX5_personItem_58 : decode cX5_personItem 58 = .ok (.bipush 7, 2) := by decide +kernel
theorem dX5_personItem_60 : decode cX5_personItem 60 = .ok (.invokevirtual 173, 3) := by decide +kernel
theorem dX5_personItem_63 : decode cX5_personItem 63 = .ok (.ifCond .eq 7, 3) := by decide +kernel
theorem dX5_personItem_66 : decode cX5_personItem 66 = .ok (.iconst 0, 1) := by decide +kernel
theorem dX5_personItem_67 : decode cX5_personItem 67 = .ok (.goto 4, 3) := by decide +kernel
theorem dX5_personItem_70 : decode cX5_personItem 70 = .ok (.iconst 1, 1) := by decide +kernel
theorem dX5_personItem_71 : decode cX5_personItem 71 = .ok (.istore 4, 2) := by decide +kernel
theorem dX5_personItem_73 : decode cX5_personItem 73 = .ok (.aload_n 0, 1) := by decide +kernel
theorem dX5_personItem_74 : decode cX5_personItem 74 = .ok (.getfield 166, 3) := by decide +kernel
theorem dX5_personItem_77 : decode cX5_personItem 77 = .ok (.ifCond .ne 14, 3) := by decide +kernel
theorem dX5_personItem_80 : decode cX5_personItem 80 = .ok (.aload_n 0, 1) := by decide +kernel
theorem dX5_personItem_81 : decode cX5_personItem 81 = .ok (.iload_n 1, 1) := by decide +kernel
theorem dX5_personItem_82 : decode cX5_personItem 82 = .ok (.iload_n 2, 1) := by decide +kernel
theorem dX5_personItem_83 : decode cX5_personItem 83 = .ok (.iload_n 3, 1) := by decide +kernel
theorem dX5_personItem_84 : decode cX5_personItem 84 = .ok (.iload 4, 2) := by decide +kernel
theorem dX5_personItem_86 : decode cX5_personItem 86 = .ok (.invokevirtual 71, 3) := by decide +kernel
theorem dX5_personItem_89 : decode cX5_personItem 89 = .ok (.istore 5, 2) := by decide +kernel
theorem dX5_personItem_91 : decode cX5_personItem 91 = .ok (.return_, 1) := by decide +kernel
set_option maxRecDepth 20000 in
theorem ggX5_item_X5_personItem : GoodIn wsX5_item wsX5_personItem := goodIn_r _ [8, 1, 2, 3, 9, 10, 11, 7, 12, 13, 14, 15, 16, 17, 18, 19, 20, 21, 22, 23, 24, 25, 26, 27, 28, 29, 30, 31, 32, 33, 34, 35, 36, 37, 38, 39, 40, 41, 42, 43, 44, 45, 46, 47, 48, 49, 50, 51, 52, 53, 54, 55, 56, 57, 58, 59, 60, 61, 62, 63, 64, 65, 66, 67, 68] (by decide +kernel) (by decide +kernel)
set_option maxRecDepth 20000 in
theorem gX5_item_X5_personItem : GoodIn wsX5_item (wsV RX5 182 RX5 yX5_personItem wsX5_personItem) := goodIn_app (goodIn_of _ (by decide +kernel)) ggX5_item_X5_personItem
set_option maxRecDepth 20000 in
theorem ggX5_item_X5_passes : GoodIn wsX5_item wsX5_passes := goodIn_r _ [45, 3, 1, 9, 10, 11, 7, 12, 13, 14, 15, 16, 17, 18, 19, 20, 21, 22, 23, 24, 25, 26, 27, 28, 29, 30, 31, 32, 33, 54, 55, 56, 57, 58, 59, 60, 61, 62, 63, 64, 65, 66, 67, 68] (by decide +kernel) (by decide +kernel)
set_option maxRecDepth 20000 in
theorem gX5_item_X5_passes : GoodIn wsX5_item (wsV RX5 173 RX5 yX5_passes wsX5_passes) := goodIn_app (goodIn_of _ (by decide +kernel)) ggX5_item_X5_passes
set_option maxRecDepth 20000 in
theorem ggX5_item_X5_number : GoodIn wsX5_item wsX5_number := goodIn_r _ [37, 15, 3, 1, 22, 23, 7, 24, 9, 10, 11, 12, 13, 14, 16, 17, 18, 19, 20, 21, 25, 26, 27, 28, 29, 30, 31, 32, 33, 54, 55, 56, 57, 58, 59, 60, 61, 62, 63, 64, 65, 66, 67, 68] (by decide +kernel) (by decide +kernel)
set_option maxRecDepth 20000 in
theorem gX5_item_X5_number : GoodIn wsX5_item (wsV RX5 176 RX5 yX5_number wsX5_number) := goodIn_app (goodIn_of _ (by decide +kernel)) ggX5_item_X5_number
theorem dX5_item_0 : decode cX5_item 0 = .ok (.aload_n 0, 1) := by decide +kernel
theorem dX5_item_1 : decode cX5_item 1 = .ok (.getfield 160, 3) := by decide +kernel
theorem dX5_item_4 : decode cX5_item 4 = .ok (.iconst 5, 1) := by decide +kernel
theorem dX5_item_5 : decode cX5_item 5 = .ok (.if_icmp .gt 10, 3) := by decide +kernel
theorem dX5_item_8 : decode cX5_item 8 = .ok (.aload_n 0, 1) := by decide +kernel
theorem dX5_item_9 : decode cX5_item 9 = .ok (.invokevirtual 182, 3) := by decide +kernel
theorem dX5_item_12 : decode cX5_item 12 = .ok (.goto 58, 3) := by decide +kernel
theorem dX5_item_15 : decode cX5_item 15 = .ok (.aload_n 0, 1) := by decide +kernel
theorem dX5_item_16 : decode cX5_item 16 = .ok (.bipush 8, 2) := by decide +kernel
theorem dX5_item_18 : decode cX5_item 18 = .ok (.invokevirtual 173, 3) := by decide +kernel
theorem dX5_item_21 : decode cX5_item 21 = .ok (.ifCond .eq 19, 3) := by decide +kernel
theorem dX5_item_24 : decode cX5_item 24 = .ok (.aload_n 0, 1) := by decide +kernel
theorem dX5_item_25 : decode cX5_item 25 = .ok (.getfield 9, 3) := by decide +kernel
theorem dX5_item_28 : decode cX5_item 28 = .ok (.iconst 1, 1) := by decide +kernel
theorem dX5_item_29 : decode cX5_item 29 = .ok (.aload_n 0, 1) := by decide +kernel
theorem dX5_item_30 : decode cX5_item 30 = .ok (.iconst 0, 1) := by decide +kernel
theorem dX5_item_31 : decode cX5_item 31 = .ok (.bipush 99, 2) := by decide +kernel
theorem dX5_item_33 : decode cX5_item 33 = .ok (.invokevirtual 176, 3) := by decide +kernel
theorem dX5_item_36 : decode cX5_item 36 = .ok (.iastore, 1) := by decide +kernel
theorem dX5_item_37 : decode cX5_item 37 = .ok (.goto 33, 3) := by decide +kernel
theorem dX5_item_40 : decode cX5_item 40 = .ok (.aload_n 0, 1) := by decide +kernel
theorem dX5_item_41 : decode cX5_item 41 = .ok (.bipush 9, 2) := by decide +kernel
theorem dX5_item_43 : decode cX5_item 43 = .ok (.invokevirtual 173, 3) := by decide +kernel
theorem dX5_item_46 : decode cX5_item 46 = .ok (.ifCond .eq 19, 3) := by decide +kernel
theorem dX5_item_49 : decode cX5_item 49 = .ok (.aload_n 0, 1) := by decide +kernel
theorem dX5_item_50 : decode cX5_item 50 = .ok (.getfield 9, 3) := by decide +kernel
theorem dX5_item_53 : decode cX5_item 53 = .ok (.iconst 2, 1) := by decide +kernel
theorem dX5_item_54 : decode cX5_item 54 = .ok (.aload_n 0, 1) := by decide +kernel
theorem dX5_item_55 : decode cX5_item 55 = .ok (.iconst 0, 1) := by decide +kernel
theorem dX5_item_56 : decode cX5_item 56 = .ok (.bipush 60, 2) := by decide +kernel
theorem dX5_item_58 : decode cX5_item 58 = .ok (.invokevirtual 176, 3) := by decide +kernel
theorem dX5_item_61 : decode cX5_item 61 = .ok (.iastore, 1) := by decide +kernel
theorem dX5_item_62 : decode cX5_item 62 = .ok (.goto 8, 3) := by decide +kernel
theorem dX5_item_65 : decode cX5_item 65 = .ok (.aload_n 0, 1) := by decide +kernel
theorem dX5_item_66 : decode cX5_item 66 = .ok (.iconst 1, 1) := by decide +kernel
theorem dX5_item_67 : decode cX5_item 67 = .ok (.putfield 166, 3) := by decide +kernel
theorem dX5_item_70 : decode cX5_item 70 = .ok (.return_, 1) := by decide +kernel
set_option maxRecDepth 20000 in
theorem ggX5_morning_X5_thinks : GoodIn wsX5_morning wsX5_thinks := goodIn_r _ [10, 11, 12, 13, 14, 9, 15, 70, 71, 72, 73, 74, 75, 76, 77, 78, 79, 80, 81, 82, 83, 84] (by decide +kernel) (by decide +kernel)
set_option maxRecDepth 20000 in
theorem gX5_morning_X5_thinks : GoodIn wsX5_morning (wsV RX5 119 RX5 yX5_thinks wsX5_thinks) := goodIn_app (goodIn_of _ (by decide +kernel)) ggX5_morning_X5_thinks
set_option maxRecDepth 20000 in
theorem ggX5_morning_X5_reads : GoodIn wsX5_morning wsX5_reads := goodIn_r _ [19, 1, 5, 20, 4, 3, 21, 22, 23, 24, 9, 25, 26, 27, 28, 29, 30, 31, 32, 33, 34, 35, 36, 37, 70, 71, 72, 73, 74, 75, 76, 77, 78, 79, 80, 81, 82, 83, 84] (by decide +kernel) (by decide +kernel)
set_option maxRecDepth 20000 in
theorem gX5_morning_X5_reads : GoodIn wsX5_morning (wsV RX5 170 RX5 yX5_reads wsX5_reads) := goodIn_app (goodIn_of _ (by decide +kernel)) ggX5_morning_X5_reads
set_option maxRecDepth 20000 in
theorem ggX5_morning_X5_item : GoodIn wsX5_morning wsX5_item := goodIn_r _ [41, 3, 11, 2, 42, 43, 44, 9, 45, 16, 17, 18, 19, 1, 5, 20, 4, 21, 22, 23, 24, 25, 26, 27, 28, 29, 30, 31, 32, 33, 34, 35, 36, 37, 46, 47, 48, 49, 50, 51, 52, 53, 54, 55, 56, 57, 58, 59, 60, 61, 62, 63, 64, 65, 70, 71, 72, 73, 74, 75, 76, 77, 78, 79, 80, 81, 82, 83, 84] (by decide +kernel) (by decide +kernel)
set_option maxRecDepth 20000 in
theorem gX5_morning_X5_item : GoodIn wsX5_morning (wsV RX5 185 RX5 yX5_item wsX5_item) := goodIn_app (goodIn_of _ (by decide +kernel)) ggX5_morning_X5_item
set_option maxRecDepth 20000 in
theorem ggX5_morning_X5_passes : GoodIn wsX5_morning wsX5_passes := goodIn_r _ [57, 2, 3, 16, 17, 18, 9, 19, 1, 5, 20, 4, 21, 22, 23, 24, 25, 26, 27, 28, 29, 30, 31, 32, 33, 34, 35, 36, 37, 70, 71, 72, 73, 74, 75, 76, 77, 78, 79, 80, 81, 82, 83, 84] (by decide +kernel) (by decide +kernel)
set_option maxRecDepth 20000 in
theorem gX5_morning_X5_passes : GoodIn wsX5_morning (wsV RX5 173 RX5 yX5_passes wsX5_passes) := goodIn_app (goodIn_of _ (by decide +kernel)) ggX5_morning_X5_passes
set_option maxRecDepth 20000 in
theorem ggX5_morning_X5_putsBack : GoodIn wsX5_morning wsX5_putsBack := goodIn_r _ [69, 12, 11, 13, 14, 9, 15, 70, 71, 72, 73, 74, 75, 76, 77, 78, 79, 80, 81, 82, 83, 84] (by decide +kernel) (by decide +kernel)
set_option maxRecDepth 20000 in
theorem gX5_morning_X5_putsBack : GoodIn wsX5_morning (wsV RX5 122 RX5 yX5_putsBack wsX5_putsBack) := goodIn_app (goodIn_of _ (by decide +kernel)) ggX5_morning_X5_putsBack
theorem dX5_morning_0 : decode cX5_morning 0 = .ok (.aload_n 0, 1) := by decide +kernel
theorem dX5_morning_1 : decode cX5_morning 1 = .ok (.invokevirtual 119, 3) := by decide +kernel
theorem dX5_morning_4 : decode cX5_morning 4 = .ok (.aload_n 0, 1) := by decide +kernel
theorem dX5_morning_5 : decode cX5_morning 5 = .ok (.iconst 0, 1) := by decide +kernel
theorem dX5_morning_6 : decode cX5_morning 6 = .ok (.putfield 147, 3) := by decide +kernel
theorem dX5_morning_9 : decode cX5_morning 9 = .ok (.aload_n 0, 1) := by decide +kernel
theorem dX5_morning_10 : decode cX5_morning 10 = .ok (.iconst 0, 1) := by decide +kernel
theorem dX5_morning_11 : decode cX5_morning 11 = .ok (.putfield 166, 3) := by decide +kernel
theorem dX5_morning_14 : decode cX5_morning 14 = .ok (.aload_n 0, 1) := by decide +kernel
theorem dX5_morning_15 : decode cX5_morning 15 = .ok (.invokevirtual 170, 3) := by decide +kernel
theorem dX5_morning_18 : decode cX5_morning 18 = .ok (.aload_n 0, 1) := by decide +kernel
theorem dX5_morning_19 : decode cX5_morning 19 = .ok (.invokevirtual 185, 3) := by decide +kernel
theorem dX5_morning_22 : decode cX5_morning 22 = .ok (.iconst 1, 1) := by decide +kernel
theorem dX5_morning_23 : decode cX5_morning 23 = .ok (.istore_n 1, 1) := by decide +kernel
theorem dX5_morning_24 : decode cX5_morning 24 = .ok (.aload_n 0, 1) := by decide +kernel
theorem dX5_morning_25 : decode cX5_morning 25 = .ok (.bipush 21, 2) := by decide +kernel
theorem dX5_morning_27 : decode cX5_morning 27 = .ok (.invokevirtual 173, 3) := by decide +kernel
theorem dX5_morning_30 : decode cX5_morning 30 = .ok (.ifCond .eq 13, 3) := by decide +kernel
theorem dX5_morning_33 : decode cX5_morning 33 = .ok (.aload_n 0, 1) := by decide +kernel
theorem dX5_morning_34 : decode cX5_morning 34 = .ok (.invokevirtual 185, 3) := by decide +kernel
theorem dX5_morning_37 : decode cX5_morning 37 = .ok (.iinc 1 1, 3) := by decide +kernel
theorem dX5_morning_40 : decode cX5_morning 40 = .ok (.goto (-16), 3) := by decide +kernel
theorem dX5_morning_43 : decode cX5_morning 43 = .ok (.aload_n 0, 1) := by decide +kernel
theorem dX5_morning_44 : decode cX5_morning 44 = .ok (.aload_n 0, 1) := by decide +kernel
theorem dX5_morning_45 : decode cX5_morning 45 = .ok (.getfield 166, 3) := by decide +kernel
theorem dX5_morning_48 : decode cX5_morning 48 = .ok (.ifCond .ne 12, 3) := by decide +kernel
theorem dX5_morning_51 : decode cX5_morning 51 = .ok (.aload_n 0, 1) := by decide +kernel
theorem dX5_morning_52 : decode cX5_morning 52 = .ok (.getfield 160, 3) := by decide +kernel
theorem dX5_morning_55 : decode cX5_morning 55 = .ok (.bipush 22, 2) := by decide +kernel
theorem dX5_morning_57 : decode cX5_morning 57 = .ok (.if_icmp .eq 7, 3) := by decide +kernel
theorem dX5_morning_60 : decode cX5_morning 60 = .ok (.iconst 1, 1) := by decide +kernel
theorem dX5_morning_61 : decode cX5_morning 61 = .ok (.goto 4, 3) := by decide +kernel
theorem dX5_morning_64 : decode cX5_morning 64 = .ok (.iconst 0, 1) := by decide +kernel
theorem dX5_morning_65 : decode cX5_morning 65 = .ok (.putfield 166, 3) := by decide +kernel
theorem dX5_morning_68 : decode cX5_morning 68 = .ok (.aload_n 0, 1) := by decide +kernel
theorem dX5_morning_69 : decode cX5_morning 69 = .ok (.iconst 0, 1) := by decide +kernel
theorem dX5_morning_70 : decode cX5_morning 70 = .ok (.putfield 137, 3) := by decide +kernel
theorem dX5_morning_73 : decode cX5_morning 73 = .ok (.aload_n 0, 1) := by decide +kernel
theorem dX5_morning_74 : decode cX5_morning 74 = .ok (.getfield 166, 3) := by decide +kernel
theorem dX5_morning_77 : decode cX5_morning 77 = .ok (.ifCond .ne 5, 3) := by decide +kernel
theorem dX5_morning_80 : decode cX5_morning 80 = .ok (.iload_n 1, 1) := by decide +kernel
theorem dX5_morning_81 : decode cX5_morning 81 = .ok (.ireturn, 1) := by decide +kernel
theorem dX5_morning_82 : decode cX5_morning 82 = .ok (.aload_n 0, 1) := by decide +kernel
theorem dX5_morning_83 : decode cX5_morning 83 = .ok (.invokevirtual 122, 3) := by decide +kernel
theorem dX5_morning_86 : decode cX5_morning 86 = .ok (.iconst (-1), 1) := by decide +kernel
theorem dX5_morning_87 : decode cX5_morning 87 = .ok (.aload_n 0, 1) := by decide +kernel
theorem dX5_morning_88 : decode cX5_morning 88 = .ok (.getfield 144, 3) := by decide +kernel
theorem dX5_morning_91 : decode cX5_morning 91 = .ok (.isub, 1) := by decide +kernel
theorem dX5_morning_92 : decode cX5_morning 92 = .ok (.ireturn, 1) := by decide +kernel
set_option maxRecDepth 20000 in
theorem ggX5_isSheet_X5_in : GoodIn wsX5_isSheet wsX5_in := goodIn_r _ [4] (by decide +kernel) (by decide +kernel)
set_option maxRecDepth 20000 in
theorem gX5_isSheet_X5_in : GoodIn wsX5_isSheet (va_wsS RX5 41 yX5_in wsX5_in) := goodIn_app (goodIn_of _ (by decide +kernel)) ggX5_isSheet_X5_in
theorem dX5_isSheet_0 : decode cX5_isSheet 0 = .ok (.iload_n 0, 1) := by decide +kernel
theorem dX5_isSheet_1 : decode cX5_isSheet 1 = .ok (.i2l, 1) := by decide +kernel
theorem dX5_isSheet_2 : decode cX5_isSheet 2 = .ok (.iconst 0, 1) := by decide +kernel
theorem dX5_isSheet_3 : decode cX5_isSheet 3 = .ok (.iconst 3, 1) := by decide +kernel
theorem dX5_isSheet_4 : decode cX5_isSheet 4 = .ok (.invokestatic 41, 3) := by decide +kernel
theorem dX5_isSheet_7 : decode cX5_isSheet 7 = .ok (.ireturn, 1) := by decide +kernel
set_option maxRecDepth 20000 in
theorem ggX5_sheet_X5_isSheet : GoodIn wsX5_sheet wsX5_isSheet := goodIn_r _ [9, 10, 11, 8, 12] (by decide +kernel) (by decide +kernel)
set_option maxRecDepth 20000 in
theorem gX5_sheet_X5_isSheet : GoodIn wsX5_sheet (va_wsS RX5 188 yX5_isSheet wsX5_isSheet) := goodIn_app (goodIn_of _ (by decide +kernel)) ggX5_sheet_X5_isSheet
set_option maxRecDepth 20000 in
theorem ggX5_sheet_X5_finds : GoodIn wsX5_sheet wsX5_finds := goodIn_r _ [16, 17, 1, 18, 19, 20, 21, 22, 23, 24, 25, 26, 27, 28, 29, 30, 31, 32] (by decide +kernel) (by decide +kernel)
set_option maxRecDepth 20000 in
theorem gX5_sheet_X5_finds : GoodIn wsX5_sheet (wsV RX5 37 RX5 yX5_finds wsX5_finds) := goodIn_app (goodIn_of _ (by decide +kernel)) ggX5_sheet_X5_finds
theorem dX5_sheet_0 : decode cX5_sheet 0 = .ok (.iload_n 1, 1) := by decide +kernel
theorem dX5_sheet_1 : decode cX5_sheet 1 = .ok (.invokestatic 188, 3) := by decide +kernel
theorem dX5_sheet_4 : decode cX5_sheet 4 = .ok (.ifCond .eq 25, 3) := by decide +kernel
theorem dX5_sheet_7 : decode cX5_sheet 7 = .ok (.iload_n 2, 1) := by decide +kernel
theorem dX5_sheet_8 : decode cX5_sheet 8 = .ok (.ifCond .eq 28, 3) := by decide +kernel
theorem dX5_sheet_11 : decode cX5_sheet 11 = .ok (.iload_n 2, 1) := by decide +kernel
theorem dX5_sheet_12 : decode cX5_sheet 12 = .ok (.bipush 8, 2) := by decide +kernel
theorem dX5_sheet_14 : decode cX5_sheet 14 = .ok (.if_icmp .eq 22, 3) := by decide +kernel
theorem dX5_sheet_17 : decode cX5_sheet 17 = .ok (.iload_n 2, 1) := by decide +kernel
theorem dX5_sheet_18 : decode cX5_sheet 18 = .ok (.bipush 16, 2) := by decide +kernel
theorem dX5_sheet_20 : decode cX5_sheet 20 = .ok (.if_icmp .eq 16, 3) := by decide +kernel
theorem dX5_sheet_23 : decode cX5_sheet 23 = .ok (.iload_n 2, 1) := by decide +kernel
theorem dX5_sheet_24 : decode cX5_sheet 24 = .ok (.bipush 64, 2) := by decide +kernel
theorem dX5_sheet_26 : decode cX5_sheet 26 = .ok (.if_icmp .eq 10, 3) := by decide +kernel
theorem dX5_sheet_29 : decode cX5_sheet 29 = .ok (.aload_n 0, 1) := by decide +kernel
theorem dX5_sheet_30 : decode cX5_sheet 30 = .ok (.ldc 35, 2) := by decide +kernel
theorem dX5_sheet_32 : decode cX5_sheet 32 = .ok (.invokevirtual 37, 3) := by decide +kernel
theorem dX5_sheet_35 : decode cX5_sheet 35 = .ok (.ireturn, 1) := by decide +kernel
theorem dX5_sheet_36 : decode cX5_sheet 36 = .ok (.iload_n 3, 1) := by decide +kernel
theorem dX5_sheet_37 : decode cX5_sheet 37 = .ok (.ifCond .ge 10, 3) := by decide +kernel
theorem dX5_sheet_40 : decode cX5_sheet 40 = .ok (.aload_n 0, 1) := by decide +kernel
theorem dX5_sheet_41 : decode cX5_sheet 41 = .ok (.ldc 191, 2) := by decide +kernel
theorem dX5_sheet_43 : decode cX5_sheet 43 = .ok (.invokevirtual 37, 3) := by decide +kernel
theorem dX5_sheet_46 : decode cX5_sheet 46 = .ok (.ireturn, 1) := by decide +kernel
theorem dX5_sheet_47 : decode cX5_sheet 47 = .ok (.iload_n 3, 1) := by decide +kernel
theorem dX5_sheet_48 : decode cX5_sheet 48 = .ok (.bipush 40, 2) := by decide +kernel
theorem dX5_sheet_50 : decode cX5_sheet 50 = .ok (.if_icmp .le 10, 3) := by decide +kernel
theorem dX5_sheet_53 : decode cX5_sheet 53 = .ok (.aload_n 0, 1) := by decide +kernel
theorem dX5_sheet_54 : decode cX5_sheet 54 = .ok (.ldc 35, 2) := by decide +kernel
theorem dX5_sheet_56 : decode cX5_sheet 56 = .ok (.invokevirtual 37, 3) := by decide +kernel
theorem dX5_sheet_59 : decode cX5_sheet 59 = .ok (.ireturn, 1) := by decide +kernel
theorem dX5_sheet_60 : decode cX5_sheet 60 = .ok (.aload_n 0, 1) := by decide +kernel
theorem dX5_sheet_61 : decode cX5_sheet 61 = .ok (.getfield 25, 3) := by decide +kernel
theorem dX5_sheet_64 : decode cX5_sheet 64 = .ok (.iload_n 1, 1) := by decide +kernel
theorem dX5_sheet_65 : decode cX5_sheet 65 = .ok (.iload_n 2, 1) := by decide +kernel
theorem dX5_sheet_66 : decode cX5_sheet 66 = .ok (.iastore, 1) := by decide +kernel
theorem dX5_sheet_67 : decode cX5_sheet 67 = .ok (.aload_n 0, 1) := by decide +kernel
theorem dX5_sheet_68 : decode cX5_sheet 68 = .ok (.getfield 28, 3) := by decide +kernel
theorem dX5_sheet_71 : decode cX5_sheet 71 = .ok (.iload_n 1, 1) := by decide +kernel
theorem dX5_sheet_72 : decode cX5_sheet 72 = .ok (.iload_n 2, 1) := by decide +kernel
theorem dX5_sheet_73 : decode cX5_sheet 73 = .ok (.ifCond .ne 7, 3) := by decide +kernel
theorem dX5_sheet_76 : decode cX5_sheet 76 = .ok (.iconst 0, 1) := by decide +kernel
theorem dX5_sheet_77 : decode cX5_sheet 77 = .ok (.goto 4, 3) := by decide +kernel
theorem dX5_sheet_80 : decode cX5_sheet 80 = .ok (.iload_n 3, 1) := by decide +kernel
theorem dX5_sheet_81 : decode cX5_sheet 81 = .ok (.iastore, 1) := by decide +kernel
theorem dX5_sheet_82 : decode cX5_sheet 82 = .ok (.iconst 0, 1) := by decide +kernel
theorem dX5_sheet_83 : decode cX5_sheet 83 = .ok (.istore 4, 2) := by decide +kernel
theorem dX5_sheet_85 : decode cX5_sheet 85 = .ok (.iload 4, 2) := by decide +kernel
theorem dX5_sheet_87 : decode cX5_sheet 87 = .ok (.bipush 40, 2) := by decide +kernel
theorem dX5_sheet_89 : decode cX5_sheet 89 = .ok (.if_icmp .ge 22, 3) := by decide +kernel
theorem dX5_sheet_92 : decode cX5_sheet 92 = .ok (.aload_n 0, 1) := by decide +kernel
theorem dX5_sheet_93 : decode cX5_sheet 93 = .ok (.getfield 31, 3) := by decide +kernel
theorem dX5_sheet_96 : decode cX5_sheet 96 = .ok (.bipush 40, 2) := by decide +kernel
theorem dX5_sheet_98 : decode cX5_sheet 98 = .ok (.iload_n 1, 1) := by decide +kernel
theorem dX5_sheet_99 : decode cX5_sheet 99 = .ok (.imul, 1) := by decide +kernel
theorem dX5_sheet_100 : decode cX5_sheet 100 = .ok (.iload 4, 2) := by decide +kernel
theorem dX5_sheet_102 : decode cX5_sheet 102 = .ok (.iadd, 1) := by decide +kernel
theorem dX5_sheet_103 : decode cX5_sheet 103 = .ok (.lconst 0, 1) := by decide +kernel
theorem dX5_sheet_104 : decode cX5_sheet 104 = .ok (.lastore, 1) := by decide +kernel
theorem dX5_sheet_105 : decode cX5_sheet 105 = .ok (.iinc 4 1, 3) := by decide +kernel
theorem dX5_sheet_108 : decode cX5_sheet 108 = .ok (.goto (-23), 3) := by decide +kernel
theorem dX5_sheet_111 : decode cX5_sheet 111 = .ok (.aload_n 0, 1) := by decide +kernel
theorem dX5_sheet_112 : decode cX5_sheet 112 = .ok (.getfield 28, 3) := by decide +kernel
theorem dX5_sheet_115 : decode cX5_sheet 115 = .ok (.iload_n 1, 1) := by decide +kernel
theorem dX5_sheet_116 : decode cX5_sheet 116 = .ok (.iaload, 1) := by decide +kernel
theorem dX5_sheet_117 : decode cX5_sheet 117 = .ok (.ireturn, 1) := by decide +kernel
set_option maxRecDepth 20000 in
theorem ggX5_notThere_X5_isSheet : GoodIn wsX5_notThere wsX5_isSheet := goodIn_r _ [7, 8, 9, 6, 10] (by decide +kernel) (by decide +kernel)
set_option maxRecDepth 20000 in
theorem gX5_notThere_X5_isSheet : GoodIn wsX5_notThere (va_wsS RX5 188 yX5_isSheet wsX5_isSheet) := goodIn_app (goodIn_of _ (by decide +kernel)) ggX5_notThere_X5_isSheet
theorem dX5_notThere_0 : decode cX5_notThere 0 = .ok (.iload_n 1, 1) := by decide +kernel
theorem dX5_notThere_1 : decode cX5_notThere 1 = .ok (.invokestatic 188, 3) := by decide +kernel
theorem dX5_notThere_4 : decode cX5_notThere 4 = .ok (.ifCond .ne 8, 3) := by decide +kernel
theorem dX5_notThere_7 : decode cX5_notThere 7 = .ok (.ldc 35, 2) := by decide +kernel
theorem dX5_notThere_9 : decode cX5_notThere 9 = .ok (.goto 18, 3) := by decide +kernel
theorem dX5_notThere_12 : decode cX5_notThere 12 = .ok (.aload_n 0, 1) := by decide +kernel
theorem dX5_notThere_13 : decode cX5_notThere 13 = .ok (.getfield 25, 3) := by decide +kernel
theorem dX5_notThere_16 : decode cX5_notThere 16 = .ok (.iload_n 1, 1) := by decide +kernel
theorem dX5_notThere_17 : decode cX5_notThere 17 = .ok (.iaload, 1) := by decide +kernel
theorem dX5_notThere_18 : decode cX5_notThere 18 = .ok (.ifCond .ne 8, 3) := by decide +kernel
theorem dX5_notThere_21 : decode cX5_notThere 21 = .ok (.ldc 192, 2) := by decide +kernel
theorem dX5_notThere_23 : decode cX5_notThere 23 = .ok (.goto 4, 3) := by decide +kernel
theorem dX5_notThere_26 : decode cX5_notThere 26 = .ok (.iconst 0, 1) := by decide +kernel
theorem dX5_notThere_27 : decode cX5_notThere 27 = .ok (.ireturn, 1) := by decide +kernel
theorem dX5_cutTo_0 : decode cX5_cutTo 0 = .ok (.iload_n 0, 1) := by decide +kernel
theorem dX5_cutTo_1 : decode cX5_cutTo 1 = .ok (.bipush 8, 2) := by decide +kernel
theorem dX5_cutTo_3 : decode cX5_cutTo 3 = .ok (.if_icmp .ne 10, 3) := by decide +kernel
theorem dX5_cutTo_6 : decode cX5_cutTo 6 = .ok (.lload_n 1, 1) := by decide +kernel
theorem dX5_cutTo_7 : decode cX5_cutTo 7 = .ok (.l2i, 1) := by decide +kernel
theorem dX5_cutTo_8 : decode cX5_cutTo 8 = .ok (.i2b, 1) := by decide +kernel
theorem dX5_cutTo_9 : decode cX5_cutTo 9 = .ok (.i2l, 1) := by decide +kernel
theorem dX5_cutTo_10 : decode cX5_cutTo 10 = .ok (.goto 17, 3) := by decide +kernel
theorem dX5_cutTo_13 : decode cX5_cutTo 13 = .ok (.iload_n 0, 1) := by decide +kernel
theorem dX5_cutTo_14 : decode cX5_cutTo 14 = .ok (.bipush 16, 2) := by decide +kernel
theorem dX5_cutTo_16 : decode cX5_cutTo 16 = .ok (.if_icmp .ne 10, 3) := by decide +kernel
theorem dX5_cutTo_19 : decode cX5_cutTo 19 = .ok (.lload_n 1, 1) := by decide +kernel
theorem dX5_cutTo_20 : decode cX5_cutTo 20 = .ok (.l2i, 1) := by decide +kernel
theorem dX5_cutTo_21 : decode cX5_cutTo 21 = .ok (.i2s, 1) := by decide +kernel
theorem dX5_cutTo_22 : decode cX5_cutTo 22 = .ok (.i2l, 1) := by decide +kernel
theorem dX5_cutTo_23 : decode cX5_cutTo 23 = .ok (.goto 4, 3) := by decide +kernel
theorem dX5_cutTo_26 : decode cX5_cutTo 26 = .ok (.lload_n 1, 1) := by decide +kernel
theorem dX5_cutTo_27 : decode cX5_cutTo 27 = .ok (.lreturn, 1) := by decide +kernel
set_option maxRecDepth 20000 in
theorem ggX5_write_X5_notThere : GoodIn wsX5_write wsX5_notThere := goodIn_r _ [9, 2, 4, 10, 11, 12, 8, 13, 14, 15, 16, 25, 26, 27, 28, 29, 30, 31, 32, 33, 34, 35, 36, 37, 38, 39] (by decide +kernel) (by decide +kernel)
set_option maxRecDepth 20000 in
theorem gX5_write_X5_notThere : GoodIn wsX5_write (wsV RX5 193 RX5 yX5_notThere wsX5_notThere) := goodIn_app (goodIn_of _ (by decide +kernel)) ggX5_write_X5_notThere
set_option maxRecDepth 20000 in
theorem ggX5_write_X5_in : GoodIn wsX5_write wsX5_in := goodIn_r _ [16] (by decide +kernel) (by decide +kernel)
set_option maxRecDepth 20000 in
theorem gX5_write_X5_in : GoodIn wsX5_write (va_wsS RX5 41 yX5_in wsX5_in) := goodIn_app (goodIn_of _ (by decide +kernel)) ggX5_write_X5_in
set_option maxRecDepth 20000 in
theorem ggX5_write_X5_finds : GoodIn wsX5_write wsX5_finds := goodIn_r _ [20, 21, 2, 25, 26, 27, 28, 29, 30, 31, 32, 33, 34, 35, 36, 37, 38, 39] (by decide +kernel) (by decide +kernel)
set_option maxRecDepth 20000 in
theorem gX5_write_X5_finds : GoodIn wsX5_write (wsV RX5 37 RX5 yX5_finds wsX5_finds) := goodIn_app (goodIn_of _ (by decide +kernel)) ggX5_write_X5_finds
set_option maxRecDepth 20000 in
theorem ggX5_write_X5_cutTo : GoodIn wsX5_write wsX5_cutTo := goodIn_r _ [24] (by decide +kernel) (by decide +kernel)
set_option maxRecDepth 20000 in
theorem gX5_write_X5_cutTo : GoodIn wsX5_write (va_wsS RX5 196 yX5_cutTo wsX5_cutTo) := goodIn_app (goodIn_of _ (by decide +kernel)) ggX5_write_X5_cutTo
theorem dX5_write_0 : decode cX5_write 0 = .ok (.aload_n 0, 1) := by decide +kernel
theorem dX5_write_1 : decode cX5_write 1 = .ok (.iload_n 1, 1) := by decide +kernel
theorem dX5_write_2 : decode cX5_write 2 = .ok (.invokevirtual 193, 3) := by decide +kernel
theorem dX5_write_5 : decode cX5_write 5 = .ok (.istore 5, 2) := by decide +kernel
theorem dX5_write_7 : decode cX5_write 7 = .ok (.iload 5, 2) := by decide +kernel
theorem dX5_write_9 : decode cX5_write 9 = .ok (.ifCond .ne 24, 3) := by decide +kernel
theorem dX5_write_12 : decode cX5_write 12 = .ok (.iload_n 2, 1) := by decide +kernel
theorem dX5_write_13 : decode cX5_write 13 = .ok (.i2l, 1) := by decide +kernel
theorem dX5_write_14 : decode cX5_write 14 = .ok (.iconst 0, 1) := by decide +kernel
theorem dX5_write_15 : decode cX5_write 15 = .ok (.aload_n 0, 1) := by decide +kernel
theorem dX5_write_16 : decode cX5_write 16 = .ok (.getfield 28, 3) := by decide +kernel
theorem dX5_write_19 : decode cX5_write 19 = .ok (.iload_n 1, 1) := by decide +kernel
theorem dX5_write_20 : decode cX5_write 20 = .ok (.iaload, 1) := by decide +kernel
theorem dX5_write_21 : decode cX5_write 21 = .ok (.iconst 1, 1) := by decide +kernel
theorem dX5_write_22 : decode cX5_write 22 = .ok (.isub, 1) := by decide +kernel
theorem dX5_write_23 : decode cX5_write 23 = .ok (.invokestatic 41, 3) := by decide +kernel
theorem dX5_write_26 : decode cX5_write 26 = .ok (.ifCond .ne 7, 3) := by decide +kernel
theorem dX5_write_29 : decode cX5_write 29 = .ok (.ldc 35, 2) := by decide +kernel
theorem dX5_write_31 : decode cX5_write 31 = .ok (.istore 5, 2) := by decide +kernel
theorem dX5_write_33 : decode cX5_write 33 = .ok (.iload 5, 2) := by decide +kernel
theorem dX5_write_35 : decode cX5_write 35 = .ok (.ifCond .eq 11, 3) := by decide +kernel
theorem dX5_write_38 : decode cX5_write 38 = .ok (.aload_n 0, 1) := by decide +kernel
theorem dX5_write_39 : decode cX5_write 39 = .ok (.iload 5, 2) := by decide +kernel
theorem dX5_write_41 : decode cX5_write 41 = .ok (.invokevirtual 37, 3) := by decide +kernel
theorem dX5_write_44 : decode cX5_write 44 = .ok (.i2l, 1) := by decide +kernel
theorem dX5_write_45 : decode cX5_write 45 = .ok (.lreturn, 1) := by decide +kernel
theorem dX5_write_46 : decode cX5_write 46 = .ok (.aload_n 0, 1) := by decide +kernel
theorem dX5_write_47 : decode cX5_write 47 = .ok (.getfield 31, 3) := by decide +kernel
theorem dX5_write_50 : decode cX5_write 50 = .ok (.bipush 40, 2) := by decide +kernel
theorem dX5_write_52 : decode cX5_write 52 = .ok (.iload_n 1, 1) := by decide +kernel
theorem dX5_write_53 : decode cX5_write 53 = .ok (.imul, 1) := by decide +kernel
theorem dX5_write_54 : decode cX5_write 54 = .ok (.iload_n 2, 1) := by decide +kernel
theorem dX5_write_55 : decode cX5_write 55 = .ok (.iadd, 1) := by decide +kernel
theorem dX5_write_56 : decode cX5_write 56 = .ok (.laload, 1) := by decide +kernel
theorem dX5_write_57 : decode cX5_write 57 = .ok (.lstore 6, 2) := by decide +kernel
theorem dX5_write_59 : decode cX5_write 59 = .ok (.aload_n 0, 1) := by decide +kernel
theorem dX5_write_60 : decode cX5_write 60 = .ok (.getfield 31, 3) := by decide +kernel
theorem dX5_write_63 : decode cX5_write 63 = .ok (.bipush 40, 2) := by decide +kernel
theorem dX5_write_65 : decode cX5_write 65 = .ok (.iload_n 1, 1) := by decide +kernel
theorem dX5_write_66 : decode cX5_write 66 = .ok (.imul, 1) := by decide +kernel
theorem dX5_write_67 : decode cX5_write 67 = .ok (.iload_n 2, 1) := by decide +kernel
theorem dX5_write_68 : decode cX5_write 68 = .ok (.iadd, 1) := by decide +kernel
theorem dX5_write_69 : decode cX5_write 69 = .ok (.aload_n 0, 1) := by decide +kernel
theorem dX5_write_70 : decode cX5_write 70 = .ok (.getfield 25, 3) := by decide +kernel
theorem dX5_write_73 : decode cX5_write 73 = .ok (.iload_n 1, 1) := by decide +kernel
theorem dX5_write_74 : decode cX5_write 74 = .ok (.iaload, 1) := by decide +kernel
theorem dX5_write_75 : decode cX5_write 75 = .ok (.lload_n 3, 1) := by decide +kernel
theorem dX5_write_76 : decode cX5_write 76 = .ok (.invokestatic 196, 3) := by decide +kernel
theorem dX5_write_79 : decode cX5_write 79 = .ok (.lastore, 1) := by decide +kernel
theorem dX5_write_80 : decode cX5_write 80 = .ok (.lload 6, 2) := by decide +kernel
theorem dX5_write_82 : decode cX5_write 82 = .ok (.lreturn, 1) := by decide +kernel
set_option maxRecDepth 20000 in
theorem ggX5_notCopied_X5_isSheet : GoodIn wsX5_notCopied wsX5_isSheet := goodIn_r _ [9, 10, 11, 8, 12] (by decide +kernel) (by decide +kernel)
set_option maxRecDepth 20000 in
theorem gX5_notCopied_X5_isSheet : GoodIn wsX5_notCopied (va_wsS RX5 188 yX5_isSheet wsX5_isSheet) := goodIn_app (goodIn_of _ (by decide +kernel)) ggX5_notCopied_X5_isSheet
theorem dX5_notCopied_0 : decode cX5_notCopied 0 = .ok (.iload_n 1, 1) := by decide +kernel
theorem dX5_notCopied_1 : decode cX5_notCopied 1 = .ok (.invokestatic 188, 3) := by decide +kernel
theorem dX5_notCopied_4 : decode cX5_notCopied 4 = .ok (.ifCond .eq 10, 3) := by decide +kernel
theorem dX5_notCopied_7 : decode cX5_notCopied 7 = .ok (.iload_n 3, 1) := by decide +kernel
theorem dX5_notCopied_8 : decode cX5_notCopied 8 = .ok (.invokestatic 188, 3) := by decide +kernel
theorem dX5_notCopied_11 : decode cX5_notCopied 11 = .ok (.ifCond .ne 6, 3) := by decide +kernel
theorem dX5_notCopied_14 : decode cX5_notCopied 14 = .ok (.ldc 35, 2) := by decide +kernel
theorem dX5_notCopied_16 : decode cX5_notCopied 16 = .ok (.ireturn, 1) := by decide +kernel
theorem dX5_notCopied_17 : decode cX5_notCopied 17 = .ok (.aload_n 0, 1) := by decide +kernel
theorem dX5_notCopied_18 : decode cX5_notCopied 18 = .ok (.getfield 25, 3) := by decide +kernel
theorem dX5_notCopied_21 : decode cX5_notCopied 21 = .ok (.iload_n 1, 1) := by decide +kernel
theorem dX5_notCopied_22 : decode cX5_notCopied 22 = .ok (.iaload, 1) := by decide +kernel
theorem dX5_notCopied_23 : decode cX5_notCopied 23 = .ok (.ifCond .eq 12, 3) := by decide +kernel
theorem dX5_notCopied_26 : decode cX5_notCopied 26 = .ok (.aload_n 0, 1) := by decide +kernel
theorem dX5_notCopied_27 : decode cX5_notCopied 27 = .ok (.getfield 25, 3) := by decide +kernel
theorem dX5_notCopied_30 : decode cX5_notCopied 30 = .ok (.iload_n 3, 1) := by decide +kernel
theorem dX5_notCopied_31 : decode cX5_notCopied 31 = .ok (.iaload, 1) := by decide +kernel
theorem dX5_notCopied_32 : decode cX5_notCopied 32 = .ok (.ifCond .ne 6, 3) := by decide +kernel
theorem dX5_notCopied_35 : decode cX5_notCopied 35 = .ok (.ldc 192, 2) := by decide +kernel
theorem dX5_notCopied_37 : decode cX5_notCopied 37 = .ok (.ireturn, 1) := by decide +kernel
theorem dX5_notCopied_38 : decode cX5_notCopied 38 = .ok (.aload_n 0, 1) := by decide +kernel
theorem dX5_notCopied_39 : decode cX5_notCopied 39 = .ok (.getfield 25, 3) := by decide +kernel
theorem dX5_notCopied_42 : decode cX5_notCopied 42 = .ok (.iload_n 1, 1) := by decide +kernel
theorem dX5_notCopied_43 : decode cX5_notCopied 43 = .ok (.iaload, 1) := by decide +kernel
theorem dX5_notCopied_44 : decode cX5_notCopied 44 = .ok (.aload_n 0, 1) := by decide +kernel
theorem dX5_notCopied_45 : decode cX5_notCopied 45 = .ok (.getfield 25, 3) := by decide +kernel
theorem dX5_notCopied_48 : decode cX5_notCopied 48 = .ok (.iload_n 3, 1) := by decide +kernel
theorem dX5_notCopied_49 : decode cX5_notCopied 49 = .ok (.iaload, 1) := by decide +kernel
theorem dX5_notCopied_50 : decode cX5_notCopied 50 = .ok (.if_icmp .eq 6, 3) := by decide +kernel
theorem dX5_notCopied_53 : decode cX5_notCopied 53 = .ok (.ldc 86, 2) := by decide +kernel
theorem dX5_notCopied_55 : decode cX5_notCopied 55 = .ok (.ireturn, 1) := by decide +kernel
theorem dX5_notCopied_56 : decode cX5_notCopied 56 = .ok (.iload 5, 2) := by decide +kernel
theorem dX5_notCopied_58 : decode cX5_notCopied 58 = .ok (.ifCond .lt 43, 3) := by decide +kernel
theorem dX5_notCopied_61 : decode cX5_notCopied 61 = .ok (.iload_n 2, 1) := by decide +kernel
theorem dX5_notCopied_62 : decode cX5_notCopied 62 = .ok (.ifCond .lt 39, 3) := by decide +kernel
theorem dX5_notCopied_65 : decode cX5_notCopied 65 = .ok (.iload 4, 2) := by decide +kernel
theorem dX5_notCopied_67 : decode cX5_notCopied 67 = .ok (.ifCond .lt 34, 3) := by decide +kernel
theorem dX5_notCopied_70 : decode cX5_notCopied 70 = .ok (.iload 5, 2) := by decide +kernel
theorem dX5_notCopied_72 : decode cX5_notCopied 72 = .ok (.aload_n 0, 1) := by decide +kernel
theorem dX5_notCopied_73 : decode cX5_notCopied 73 = .ok (.getfield 28, 3) := by decide +kernel
theorem dX5_notCopied_76 : decode cX5_notCopied 76 = .ok (.iload_n 1, 1) := by decide +kernel
theorem dX5_notCopied_77 : decode cX5_notCopied 77 = .ok (.iaload, 1) := by decide +kernel
theorem dX5_notCopied_78 : decode cX5_notCopied 78 = .ok (.iload_n 2, 1) := by decide +kernel
theorem dX5_notCopied_79 : decode cX5_notCopied 79 = .ok (.isub, 1) := by decide +kernel
theorem dX5_notCopied_80 : decode cX5_notCopied 80 = .ok (.if_icmp .gt 21, 3) := by decide +kernel
theorem dX5_notCopied_83 : decode cX5_notCopied 83 = .ok (.iload 5, 2) := by decide +kernel
theorem dX5_notCopied_85 : decode cX5_notCopied 85 = .ok (.aload_n 0, 1) := by decide +kernel
theorem dX5_notCopied_86 : decode cX5_notCopied 86 = .ok (.getfield 28, 3) := by decide +kernel
theorem dX5_notCopied_89 : decode cX5_notCopied 89 = .ok (.iload_n 3, 1) := by decide +kernel
theorem dX5_notCopied_90 : decode cX5_notCopied 90 = .ok (.iaload, 1) := by decide +kernel
theorem dX5_notCopied_91 : decode cX5_notCopied 91 = .ok (.iload 4, 2) := by decide +kernel
theorem dX5_notCopied_93 : decode cX5_notCopied 93 = .ok (.isub, 1) := by decide +kernel
theorem dX5_notCopied_94 : decode cX5_notCopied 94 = .ok (.if_icmp .gt 7, 3) := by decide +kernel
theorem dX5_notCopied_97 : decode cX5_notCopied 97 = .ok (.iconst 1, 1) := by decide +kernel
theorem dX5_notCopied_98 : decode cX5_notCopied 98 = .ok (.goto 4, 3) := by decide +kernel
theorem dX5_notCopied_101 : decode cX5_notCopied 101 = .ok (.iconst 0, 1) := by decide +kernel
theorem dX5_notCopied_102 : decode cX5_notCopied 102 = .ok (.istore 6, 2) := by decide +kernel
theorem dX5_notCopied_104 : decode cX5_notCopied 104 = .ok (.iload 6, 2) := by decide +kernel
theorem dX5_notCopied_106 : decode cX5_notCopied 106 = .ok (.ifCond .eq 7, 3) := by decide +kernel
theorem dX5_notCopied_109 : decode cX5_notCopied 109 = .ok (.iconst 0, 1) := by decide +kernel
theorem dX5_notCopied_110 : decode cX5_notCopied 110 = .ok (.goto 5, 3) := by decide +kernel
theorem dX5_notCopied_113 : decode cX5_notCopied 113 = .ok (.ldc 35, 2) := by decide +kernel
theorem dX5_notCopied_115 : decode cX5_notCopied 115 = .ok (.ireturn, 1) := by decide +kernel
set_option maxRecDepth 20000 in
theorem ggX5_copy_X5_notCopied : GoodIn wsX5_copy wsX5_notCopied := goodIn_r _ [6, 7, 8, 9, 10, 11, 12, 13, 5, 14, 15, 16, 17, 23, 24, 25, 26, 27, 28, 29, 30, 31, 32, 33, 34, 35, 36, 37] (by decide +kernel) (by decide +kernel)
set_option maxRecDepth 20000 in
theorem gX5_copy_X5_notCopied : GoodIn wsX5_copy (wsV RX5 200 RX5 yX5_notCopied wsX5_notCopied) := goodIn_app (goodIn_of _ (by decide +kernel)) ggX5_copy_X5_notCopied
set_option maxRecDepth 20000 in
theorem ggX5_copy_X5_finds : GoodIn wsX5_copy wsX5_finds := goodIn_r _ [21, 22, 7, 23, 24, 25, 26, 27, 28, 29, 30, 31, 32, 33, 34, 35, 36, 37] (by decide +kernel) (by decide +kernel)
set_option maxRecDepth 20000 in
theorem gX5_copy_X5_finds : GoodIn wsX5_copy (wsV RX5 37 RX5 yX5_finds wsX5_finds) := goodIn_app (goodIn_of _ (by decide +kernel)) ggX5_copy_X5_finds
theorem dX5_copy_0 : decode cX5_copy 0 = .ok (.aload_n 0, 1) := by decide +kernel
theorem dX5_copy_1 : decode cX5_copy 1 = .ok (.iload_n 1, 1) := by decide +kernel
theorem dX5_copy_2 : decode cX5_copy 2 = .ok (.iload_n 2, 1) := by decide +kernel
theorem dX5_copy_3 : decode cX5_copy 3 = .ok (.iload_n 3, 1) := by decide +kernel
theorem dX5_copy_4 : decode cX5_copy 4 = .ok (.iload 4, 2) := by decide +kernel
theorem dX5_copy_6 : decode cX5_copy 6 = .ok (.iload 5, 2) := by decide +kernel
theorem dX5_copy_8 : decode cX5_copy 8 = .ok (.invokevirtual 200, 3) := by decide +kernel
theorem dX5_copy_11 : decode cX5_copy 11 = .ok (.istore 6, 2) := by decide +kernel
theorem dX5_copy_13 : decode cX5_copy 13 = .ok (.iload 6, 2) := by decide +kernel
theorem dX5_copy_15 : decode cX5_copy 15 = .ok (.ifCond .eq 10, 3) := by decide +kernel
theorem dX5_copy_18 : decode cX5_copy 18 = .ok (.aload_n 0, 1) := by decide +kernel
theorem dX5_copy_19 : decode cX5_copy 19 = .ok (.iload 6, 2) := by decide +kernel
theorem dX5_copy_21 : decode cX5_copy 21 = .ok (.invokevirtual 37, 3) := by decide +kernel
theorem dX5_copy_24 : decode cX5_copy 24 = .ok (.ireturn, 1) := by decide +kernel
theorem dX5_copy_25 : decode cX5_copy 25 = .ok (.iconst 0, 1) := by decide +kernel
theorem dX5_copy_26 : decode cX5_copy 26 = .ok (.istore 7, 2) := by decide +kernel
theorem dX5_copy_28 : decode cX5_copy 28 = .ok (.iload 7, 2) := by decide +kernel
theorem dX5_copy_30 : decode cX5_copy 30 = .ok (.iload 5, 2) := by decide +kernel
theorem dX5_copy_32 : decode cX5_copy 32 = .ok (.if_icmp .ge 58, 3) := by decide +kernel
theorem dX5_copy_35 : decode cX5_copy 35 = .ok (.iload_n 2, 1) := by decide +kernel
theorem dX5_copy_36 : decode cX5_copy 36 = .ok (.iload 4, 2) := by decide +kernel
theorem dX5_copy_38 : decode cX5_copy 38 = .ok (.if_icmp .ge 13, 3) := by decide +kernel
theorem dX5_copy_41 : decode cX5_copy 41 = .ok (.iload 5, 2) := by decide +kernel
theorem dX5_copy_43 : decode cX5_copy 43 = .ok (.iconst 1, 1) := by decide +kernel
theorem dX5_copy_44 : decode cX5_copy 44 = .ok (.isub, 1) := by decide +kernel
theorem dX5_copy_45 : decode cX5_copy 45 = .ok (.iload 7, 2) := by decide +kernel
theorem dX5_copy_47 : decode cX5_copy 47 = .ok (.isub, 1) := by decide +kernel
theorem dX5_copy_48 : decode cX5_copy 48 = .ok (.goto 5, 3) := by decide +kernel
theorem dX5_copy_51 : decode cX5_copy 51 = .ok (.iload 7, 2) := by decide +kernel
theorem dX5_copy_53 : decode cX5_copy 53 = .ok (.istore 8, 2) := by decide +kernel
theorem dX5_copy_55 : decode cX5_copy 55 = .ok (.aload_n 0, 1) := by decide +kernel
theorem dX5_copy_56 : decode cX5_copy 56 = .ok (.getfield 31, 3) := by decide +kernel
theorem dX5_copy_59 : decode cX5_copy 59 = .ok (.bipush 40, 2) := by decide +kernel
theorem dX5_copy_61 : decode cX5_copy 61 = .ok (.iload_n 3, 1) := by decide +kernel
theorem dX5_copy_62 : decode cX5_copy 62 = .ok (.imul, 1) := by decide +kernel
theorem dX5_copy_63 : decode cX5_copy 63 = .ok (.iload 4, 2) := by decide +kernel
theorem dX5_copy_65 : decode cX5_copy 65 = .ok (.iadd, 1) := by decide +kernel
theorem dX5_copy_66 : decode cX5_copy 66 = .ok (.iload 8, 2) := by decide +kernel
theorem dX5_copy_68 : decode cX5_copy 68 = .ok (.iadd, 1) := by decide +kernel
theorem dX5_copy_69 : decode cX5_copy 69 = .ok (.aload_n 0, 1) := by decide +kernel
theorem dX5_copy_70 : decode cX5_copy 70 = .ok (.getfield 31, 3) := by decide +kernel
theorem dX5_copy_73 : decode cX5_copy 73 = .ok (.bipush 40, 2) := by decide +kernel
theorem dX5_copy_75 : decode cX5_copy 75 = .ok (.iload_n 1, 1) := by decide +kernel
theorem dX5_copy_76 : decode cX5_copy 76 = .ok (.imul, 1) := by decide +kernel
theorem dX5_copy_77 : decode cX5_copy 77 = .ok (.iload_n 2, 1) := by decide +kernel
theorem dX5_copy_78 : decode cX5_copy 78 = .ok (.iadd, 1) := by decide +kernel
theorem dX5_copy_79 : decode cX5_copy 79 = .ok (.iload 8, 2) := by decide +kernel
theorem dX5_copy_81 : decode cX5_copy 81 = .ok (.iadd, 1) := by decide +kernel
theorem dX5_copy_82 : decode cX5_copy 82 = .ok (.laload, 1) := by decide +kernel
theorem dX5_copy_83 : decode cX5_copy 83 = .ok (.lastore, 1) := by decide +kernel
theorem dX5_copy_84 : decode cX5_copy 84 = .ok (.iinc 7 1, 3) := by decide +kernel
theorem dX5_copy_87 : decode cX5_copy 87 = .ok (.goto (-59), 3) := by decide +kernel
theorem dX5_copy_90 : decode cX5_copy 90 = .ok (.iload 5, 2) := by decide +kernel
theorem dX5_copy_92 : decode cX5_copy 92 = .ok (.ireturn, 1) := by decide +kernel
set_option maxRecDepth 20000 in
theorem ggX5_lays_X5_notThere : GoodIn wsX5_lays wsX5_notThere := goodIn_r _ [8, 9, 10, 11, 12, 13, 7, 14, 15, 16, 17, 27, 28, 29, 30, 31, 32, 33, 34, 35, 36, 37, 38, 39, 40, 41] (by decide +kernel) (by decide +kernel)
set_option maxRecDepth 20000 in
theorem gX5_lays_X5_notThere : GoodIn wsX5_lays (wsV RX5 193 RX5 yX5_notThere wsX5_notThere) := goodIn_app (goodIn_of _ (by decide +kernel)) ggX5_lays_X5_notThere
set_option maxRecDepth 20000 in
theorem ggX5_lays_X5_finds : GoodIn wsX5_lays wsX5_finds := goodIn_r _ [21, 22, 9, 27, 28, 29, 30, 31, 32, 33, 34, 35, 36, 37, 38, 39, 40, 41] (by decide +kernel) (by decide +kernel)
set_option maxRecDepth 20000 in
theorem gX5_lays_X5_finds : GoodIn wsX5_lays (wsV RX5 37 RX5 yX5_finds wsX5_finds) := goodIn_app (goodIn_of _ (by decide +kernel)) ggX5_lays_X5_finds
set_option maxRecDepth 20000 in
theorem ggX5_lays_X5_in : GoodIn wsX5_lays wsX5_in := goodIn_r _ [17] (by decide +kernel) (by decide +kernel)
set_option maxRecDepth 20000 in
theorem gX5_lays_X5_in : GoodIn wsX5_lays (va_wsS RX5 41 yX5_in wsX5_in) := goodIn_app (goodIn_of _ (by decide +kernel)) ggX5_lays_X5_in
set_option maxRecDepth 20000 in
theorem ggX5_lays_X5_put : GoodIn wsX5_lays wsX5_put := goodIn_r _ [26, 2, 27, 28, 29, 30, 31, 32, 33, 34, 35, 36, 37, 38, 39, 40, 41] (by decide +kernel) (by decide +kernel)
set_option maxRecDepth 20000 in
theorem gX5_lays_X5_put : GoodIn wsX5_lays (wsV RX5 66 RX5 yX5_put wsX5_put) := goodIn_app (goodIn_of _ (by decide +kernel)) ggX5_lays_X5_put
theorem dX5_lays_0 : decode cX5_lays 0 = .ok (.aload_n 0, 1) := by decide +kernel
theorem dX5_lays_1 : decode cX5_lays 1 = .ok (.iload_n 1, 1) := by decide +kernel
theorem dX5_lays_2 : decode cX5_lays 2 = .ok (.invokevirtual 193, 3) := by decide +kernel
theorem dX5_lays_5 : decode cX5_lays 5 = .ok (.istore_n 2, 1) := by decide +kernel
theorem dX5_lays_6 : decode cX5_lays 6 = .ok (.iload_n 2, 1) := by decide +kernel
theorem dX5_lays_7 : decode cX5_lays 7 = .ok (.ifCond .eq 9, 3) := by decide +kernel
theorem dX5_lays_10 : decode cX5_lays 10 = .ok (.aload_n 0, 1) := by decide +kernel
theorem dX5_lays_11 : decode cX5_lays 11 = .ok (.iload_n 2, 1) := by decide +kernel
theorem dX5_lays_12 : decode cX5_lays 12 = .ok (.invokevirtual 37, 3) := by decide +kernel
theorem dX5_lays_15 : decode cX5_lays 15 = .ok (.ireturn, 1) := by decide +kernel
theorem dX5_lays_16 : decode cX5_lays 16 = .ok (.iconst 0, 1) := by decide +kernel
theorem dX5_lays_17 : decode cX5_lays 17 = .ok (.istore_n 3, 1) := by decide +kernel
theorem dX5_lays_18 : decode cX5_lays 18 = .ok (.iconst 0, 1) := by decide +kernel
theorem dX5_lays_19 : decode cX5_lays 19 = .ok (.istore 4, 2) := by decide +kernel
theorem dX5_lays_21 : decode cX5_lays 21 = .ok (.iload 4, 2) := by decide +kernel
theorem dX5_lays_23 : decode cX5_lays 23 = .ok (.aload_n 0, 1) := by decide +kernel
theorem dX5_lays_24 : decode cX5_lays 24 = .ok (.getfield 28, 3) := by decide +kernel
theorem dX5_lays_27 : decode cX5_lays 27 = .ok (.iload_n 1, 1) := by decide +kernel
theorem dX5_lays_28 : decode cX5_lays 28 = .ok (.iaload, 1) := by decide +kernel
theorem dX5_lays_29 : decode cX5_lays 29 = .ok (.if_icmp .ge 65, 3) := by decide +kernel
theorem dX5_lays_32 : decode cX5_lays 32 = .ok (.iload 4, 2) := by decide +kernel
theorem dX5_lays_34 : decode cX5_lays 34 = .ok (.aload_n 0, 1) := by decide +kernel
theorem dX5_lays_35 : decode cX5_lays 35 = .ok (.getfield 9, 3) := by decide +kernel
theorem dX5_lays_38 : decode cX5_lays 38 = .ok (.iconst 4, 1) := by decide +kernel
theorem dX5_lays_39 : decode cX5_lays 39 = .ok (.iaload, 1) := by decide +kernel
theorem dX5_lays_40 : decode cX5_lays 40 = .ok (.if_icmp .ge 54, 3) := by decide +kernel
theorem dX5_lays_43 : decode cX5_lays 43 = .ok (.aload_n 0, 1) := by decide +kernel
theorem dX5_lays_44 : decode cX5_lays 44 = .ok (.getfield 31, 3) := by decide +kernel
theorem dX5_lays_47 : decode cX5_lays 47 = .ok (.bipush 40, 2) := by decide +kernel
theorem dX5_lays_49 : decode cX5_lays 49 = .ok (.iload_n 1, 1) := by decide +kernel
theorem dX5_lays_50 : decode cX5_lays 50 = .ok (.imul, 1) := by decide +kernel
theorem dX5_lays_51 : decode cX5_lays 51 = .ok (.iload 4, 2) := by decide +kernel
theorem dX5_lays_53 : decode cX5_lays 53 = .ok (.iadd, 1) := by decide +kernel
theorem dX5_lays_54 : decode cX5_lays 54 = .ok (.laload, 1) := by decide +kernel
theorem dX5_lays_55 : decode cX5_lays 55 = .ok (.iconst 0, 1) := by decide +kernel
theorem dX5_lays_56 : decode cX5_lays 56 = .ok (.sipush 999, 3) := by decide +kernel
theorem dX5_lays_59 : decode cX5_lays 59 = .ok (.invokestatic 41, 3) := by decide +kernel
theorem dX5_lays_62 : decode cX5_lays 62 = .ok (.ifCond .eq 26, 3) := by decide +kernel
theorem dX5_lays_65 : decode cX5_lays 65 = .ok (.aload_n 0, 1) := by decide +kernel
theorem dX5_lays_66 : decode cX5_lays 66 = .ok (.iload 4, 2) := by decide +kernel
theorem dX5_lays_68 : decode cX5_lays 68 = .ok (.iconst 3, 1) := by decide +kernel
theorem dX5_lays_69 : decode cX5_lays 69 = .ok (.aload_n 0, 1) := by decide +kernel
theorem dX5_lays_70 : decode cX5_lays 70 = .ok (.getfield 31, 3) := by decide +kernel
theorem dX5_lays_73 : decode cX5_lays 73 = .ok (.bipush 40, 2) := by decide +kernel
theorem dX5_lays_75 : decode cX5_lays 75 = .ok (.iload_n 1, 1) := by decide +kernel
theorem dX5_lays_76 : decode cX5_lays 76 = .ok (.imul, 1) := by decide +kernel
theorem dX5_lays_77 : decode cX5_lays 77 = .ok (.iload 4, 2) := by decide +kernel
theorem dX5_lays_79 : decode cX5_lays 79 = .ok (.iadd, 1) := by decide +kernel
theorem dX5_lays_80 : decode cX5_lays 80 = .ok (.laload, 1) := by decide +kernel
theorem dX5_lays_81 : decode cX5_lays 81 = .ok (.l2i, 1) := by decide +kernel
theorem dX5_lays_82 : decode cX5_lays 82 = .ok (.invokevirtual 66, 3) := by decide +kernel
theorem dX5_lays_85 : decode cX5_lays 85 = .ok (.iinc 3 1, 3) := by decide +kernel
theorem dX5_lays_88 : decode cX5_lays 88 = .ok (.iinc 4 1, 3) := by decide +kernel
theorem dX5_lays_91 : decode cX5_lays 91 = .ok (.goto (-70), 3) := by decide +kernel
theorem dX5_lays_94 : decode cX5_lays 94 = .ok (.iload_n 3, 1) := by decide +kernel
theorem dX5_lays_95 : decode cX5_lays 95 = .ok (.ireturn, 1) := by decide +kernel
set_option maxRecDepth 20000 in
theorem ggX5_notAsked_X5_notThere : GoodIn wsX5_notAsked wsX5_notThere := goodIn_r _ [6, 1, 7, 8, 9, 10, 5, 11, 12, 13, 14, 20, 21, 22, 23, 24, 25, 26, 27, 28, 29, 30, 31, 32, 33, 34] (by decide +kernel) (by decide +kernel)
set_option maxRecDepth 20000 in
theorem gX5_notAsked_X5_notThere : GoodIn wsX5_notAsked (wsV RX5 193 RX5 yX5_notThere wsX5_notThere) := goodIn_app (goodIn_of _ (by decide +kernel)) ggX5_notAsked_X5_notThere
set_option maxRecDepth 20000 in
theorem ggX5_notAsked_X5_isPerson : GoodIn wsX5_notAsked wsX5_isPerson := goodIn_r _ [18, 19, 12, 13, 5, 14, 20, 21, 22, 23, 24, 25, 26, 27, 28, 29, 30, 31, 32, 33, 34] (by decide +kernel) (by decide +kernel)
set_option maxRecDepth 20000 in
theorem gX5_notAsked_X5_isPerson : GoodIn wsX5_notAsked (wsV RX5 75 RX5 yX5_isPerson wsX5_isPerson) := goodIn_app (goodIn_of _ (by decide +kernel)) ggX5_notAsked_X5_isPerson
theorem dX5_notAsked_0 : decode cX5_notAsked 0 = .ok (.aload_n 0, 1) := by decide +kernel
theorem dX5_notAsked_1 : decode cX5_notAsked 1 = .ok (.iload_n 1, 1) := by decide +kernel
theorem dX5_notAsked_2 : decode cX5_notAsked 2 = .ok (.invokevirtual 193, 3) := by decide +kernel
theorem dX5_notAsked_5 : decode cX5_notAsked 5 = .ok (.istore_n 3, 1) := by decide +kernel
theorem dX5_notAsked_6 : decode cX5_notAsked 6 = .ok (.iload_n 3, 1) := by decide +kernel
theorem dX5_notAsked_7 : decode cX5_notAsked 7 = .ok (.ifCond .ne 16, 3) := by decide +kernel
theorem dX5_notAsked_10 : decode cX5_notAsked 10 = .ok (.aload_n 0, 1) := by decide +kernel
theorem dX5_notAsked_11 : decode cX5_notAsked 11 = .ok (.iload_n 2, 1) := by decide +kernel
theorem dX5_notAsked_12 : decode cX5_notAsked 12 = .ok (.invokevirtual 75, 3) := by decide +kernel
theorem dX5_notAsked_15 : decode cX5_notAsked 15 = .ok (.ifCond .ne 8, 3) := by decide +kernel
theorem dX5_notAsked_18 : decode cX5_notAsked 18 = .ok (.ldc 35, 2) := by decide +kernel
theorem dX5_notAsked_20 : decode cX5_notAsked 20 = .ok (.goto 4, 3) := by decide +kernel
theorem dX5_notAsked_23 : decode cX5_notAsked 23 = .ok (.iload_n 3, 1) := by decide +kernel
theorem dX5_notAsked_24 : decode cX5_notAsked 24 = .ok (.ireturn, 1) := by decide +kernel
set_option maxRecDepth 20000 in
theorem ggX5_book_X5_notAsked : GoodIn wsX5_book wsX5_notAsked := goodIn_r _ [8, 9, 10, 11, 12, 7, 13, 3, 14, 15, 16, 17, 18, 19, 20, 21, 22, 23, 24, 25, 85, 86, 87, 88, 89, 90, 91, 92, 93, 94, 95, 96, 97, 98, 99] (by decide +kernel) (by decide +kernel)
set_option maxRecDepth 20000 in
theorem gX5_book_X5_notAsked : GoodIn wsX5_book (wsV RX5 204 RX5 yX5_notAsked wsX5_notAsked) := goodIn_app (goodIn_of _ (by decide +kernel)) ggX5_book_X5_notAsked
set_option maxRecDepth 20000 in
theorem ggX5_book_X5_finds : GoodIn wsX5_book wsX5_finds := goodIn_r _ [29, 30, 9, 85, 86, 87, 88, 89, 90, 91, 92, 93, 94, 95, 96, 97, 98, 99] (by decide +kernel) (by decide +kernel)
set_option maxRecDepth 20000 in
theorem gX5_book_X5_finds : GoodIn wsX5_book (wsV RX5 37 RX5 yX5_finds wsX5_finds) := goodIn_app (goodIn_of _ (by decide +kernel)) ggX5_book_X5_finds
set_option maxRecDepth 20000 in
theorem ggX5_book_X5_thinks : GoodIn wsX5_book wsX5_thinks := goodIn_r _ [34, 25, 35, 36, 37, 7, 38, 85, 86, 87, 88, 89, 90, 91, 92, 93, 94, 95, 96, 97, 98, 99] (by decide +kernel) (by decide +kernel)
set_option maxRecDepth 20000 in
theorem gX5_book_X5_thinks : GoodIn wsX5_book (wsV RX5 119 RX5 yX5_thinks wsX5_thinks) := goodIn_app (goodIn_of _ (by decide +kernel)) ggX5_book_X5_thinks
set_option maxRecDepth 20000 in
theorem ggX5_book_X5_it : GoodIn wsX5_book wsX5_it := goodIn_r _ [42, 25, 85, 86, 87, 88, 89, 90, 91, 92, 93, 94, 95, 96, 97, 98, 99] (by decide +kernel) (by decide +kernel)
set_option maxRecDepth 20000 in
theorem gX5_book_X5_it : GoodIn wsX5_book (wsV RX5 45 RX5 yX5_it wsX5_it) := goodIn_app (goodIn_of _ (by decide +kernel)) ggX5_book_X5_it
set_option maxRecDepth 20000 in
theorem ggX5_book_X5_cutTo : GoodIn wsX5_book wsX5_cutTo := goodIn_r _ [45] (by decide +kernel) (by decide +kernel)
set_option maxRecDepth 20000 in
theorem gX5_book_X5_cutTo : GoodIn wsX5_book (va_wsS RX5 196 yX5_cutTo wsX5_cutTo) := goodIn_app (goodIn_of _ (by decide +kernel)) ggX5_book_X5_cutTo
set_option maxRecDepth 20000 in
theorem ggX5_book_X5_goes : GoodIn wsX5_book wsX5_goes := goodIn_r _ [49, 25, 39, 40, 41, 7, 42, 50, 51, 52, 53, 54, 55, 56, 57, 58, 59, 60, 61, 62, 63, 64, 65, 66, 67, 68, 69, 70, 71, 72, 73, 74, 75, 76, 77, 78, 79, 80, 85, 86, 87, 88, 89, 90, 91, 92, 93, 94, 95, 96, 97, 98, 99] (by decide +kernel) (by decide +kernel)
set_option maxRecDepth 20000 in
theorem gX5_book_X5_goes : GoodIn wsX5_book (wsV RX5 107 RX5 yX5_goes wsX5_goes) := goodIn_app (goodIn_of _ (by decide +kernel)) ggX5_book_X5_goes
set_option maxRecDepth 20000 in
theorem ggX5_book_X5_putsBack : GoodIn wsX5_book wsX5_putsBack := goodIn_r _ [84, 35, 25, 36, 37, 7, 38, 85, 86, 87, 88, 89, 90, 91, 92, 93, 94, 95, 96, 97, 98, 99] (by decide +kernel) (by decide +kernel)
set_option maxRecDepth 20000 in
theorem gX5_book_X5_putsBack : GoodIn wsX5_book (wsV RX5 122 RX5 yX5_putsBack wsX5_putsBack) := goodIn_app (goodIn_of _ (by decide +kernel)) ggX5_book_X5_putsBack
theorem dX5_book_0 : decode cX5_book 0 = .ok (.aload_n 0, 1) := by decide +kernel
theorem dX5_book_1 : decode cX5_book 1 = .ok (.iload_n 1, 1) := by decide +kernel
theorem dX5_book_2 : decode cX5_book 2 = .ok (.iload_n 2, 1) := by decide +kernel
theorem dX5_book_3 : decode cX5_book 3 = .ok (.invokevirtual 204, 3) := by decide +kernel
theorem dX5_book_6 : decode cX5_book 6 = .ok (.istore_n 3, 1) := by decide +kernel
theorem dX5_book_7 : decode cX5_book 7 = .ok (.iload_n 3, 1) := by decide +kernel
theorem dX5_book_8 : decode cX5_book 8 = .ok (.ifCond .eq 9, 3) := by decide +kernel
theorem dX5_book_11 : decode cX5_book 11 = .ok (.aload_n 0, 1) := by decide +kernel
theorem dX5_book_12 : decode cX5_book 12 = .ok (.iload_n 3, 1) := by decide +kernel
theorem dX5_book_13 : decode cX5_book 13 = .ok (.invokevirtual 37, 3) := by decide +kernel
theorem dX5_book_16 : decode cX5_book 16 = .ok (.ireturn, 1) := by decide +kernel
theorem dX5_book_17 : decode cX5_book 17 = .ok (.aload_n 0, 1) := by decide +kernel
theorem dX5_book_18 : decode cX5_book 18 = .ok (.invokevirtual 119, 3) := by decide +kernel
theorem dX5_book_21 : decode cX5_book 21 = .ok (.iconst 0, 1) := by decide +kernel
theorem dX5_book_22 : decode cX5_book 22 = .ok (.istore 4, 2) := by decide +kernel
theorem dX5_book_24 : decode cX5_book 24 = .ok (.iload 4, 2) := by decide +kernel
theorem dX5_book_26 : decode cX5_book 26 = .ok (.aload_n 0, 1) := by decide +kernel
theorem dX5_book_27 : decode cX5_book 27 = .ok (.getfield 28, 3) := by decide +kernel
theorem dX5_book_30 : decode cX5_book 30 = .ok (.iload_n 1, 1) := by decide +kernel
theorem dX5_book_31 : decode cX5_book 31 = .ok (.iaload, 1) := by decide +kernel
theorem dX5_book_32 : decode cX5_book 32 = .ok (.if_icmp .ge 41, 3) := by decide +kernel
theorem dX5_book_35 : decode cX5_book 35 = .ok (.aload_n 0, 1) := by decide +kernel
theorem dX5_book_36 : decode cX5_book 36 = .ok (.getfield 31, 3) := by decide +kernel
theorem dX5_book_39 : decode cX5_book 39 = .ok (.bipush 40, 2) := by decide +kernel
theorem dX5_book_41 : decode cX5_book 41 = .ok (.iload_n 1, 1) := by decide +kernel
theorem dX5_book_42 : decode cX5_book 42 = .ok (.imul, 1) := by decide +kernel
theorem dX5_book_43 : decode cX5_book 43 = .ok (.iload 4, 2) := by decide +kernel
theorem dX5_book_45 : decode cX5_book 45 = .ok (.iadd, 1) := by decide +kernel
theorem dX5_book_46 : decode cX5_book 46 = .ok (.aload_n 0, 1) := by decide +kernel
theorem dX5_book_47 : decode cX5_book 47 = .ok (.getfield 25, 3) := by decide +kernel
theorem dX5_book_50 : decode cX5_book 50 = .ok (.iload_n 1, 1) := by decide +kernel
theorem dX5_book_51 : decode cX5_book 51 = .ok (.iaload, 1) := by decide +kernel
theorem dX5_book_52 : decode cX5_book 52 = .ok (.aload_n 0, 1) := by decide +kernel
theorem dX5_book_53 : decode cX5_book 53 = .ok (.iload_n 2, 1) := by decide +kernel
theorem dX5_book_54 : decode cX5_book 54 = .ok (.iconst 3, 1) := by decide +kernel
theorem dX5_book_55 : decode cX5_book 55 = .ok (.invokevirtual 45, 3) := by decide +kernel
theorem dX5_book_58 : decode cX5_book 58 = .ok (.i2l, 1) := by decide +kernel
theorem dX5_book_59 : decode cX5_book 59 = .ok (.invokestatic 196, 3) := by decide +kernel
theorem dX5_book_62 : decode cX5_book 62 = .ok (.lastore, 1) := by decide +kernel
theorem dX5_book_63 : decode cX5_book 63 = .ok (.aload_n 0, 1) := by decide +kernel
theorem dX5_book_64 : decode cX5_book 64 = .ok (.invokevirtual 107, 3) := by decide +kernel
theorem dX5_book_67 : decode cX5_book 67 = .ok (.iinc 4 1, 3) := by decide +kernel
theorem dX5_book_70 : decode cX5_book 70 = .ok (.goto (-46), 3) := by decide +kernel
theorem dX5_book_73 : decode cX5_book 73 = .ok (.aload_n 0, 1) := by decide +kernel
theorem dX5_book_74 : decode cX5_book 74 = .ok (.invokevirtual 122, 3) := by decide +kernel
theorem dX5_book_77 : decode cX5_book 77 = .ok (.aload_n 0, 1) := by decide +kernel
theorem dX5_book_78 : decode cX5_book 78 = .ok (.getfield 28, 3) := by decide +kernel
theorem dX5_book_81 : decode cX5_book 81 = .ok (.iload_n 1, 1) := by decide +kernel
theorem dX5_book_82 : decode cX5_book 82 = .ok (.iaload, 1) := by decide +kernel
theorem dX5_book_83 : decode cX5_book 83 = .ok (.ireturn, 1) := by decide +kernel
set_option maxRecDepth 20000 in
theorem ggX5_isBook_X5_it : GoodIn wsX5_isBook wsX5_it := goodIn_r _ [7, 8, 52, 53, 54, 55, 56, 57, 58, 59, 60, 61, 62, 63, 64, 65, 66] (by decide +kernel) (by decide +kernel)
set_option maxRecDepth 20000 in
theorem gX5_isBook_X5_it : GoodIn wsX5_isBook (wsV RX5 45 RX5 yX5_it wsX5_it) := goodIn_app (goodIn_of _ (by decide +kernel)) ggX5_isBook_X5_it
set_option maxRecDepth 20000 in
theorem ggX5_isBook_X5_goes : GoodIn wsX5_isBook wsX5_goes := goodIn_r _ [12, 8, 3, 4, 5, 6, 7, 13, 14, 15, 16, 17, 18, 19, 20, 21, 22, 23, 24, 25, 26, 27, 28, 29, 30, 31, 32, 33, 34, 35, 36, 37, 38, 39, 40, 41, 42, 43, 52, 53, 54, 55, 56, 57, 58, 59, 60, 61, 62, 63, 64, 65, 66] (by decide +kernel) (by decide +kernel)
set_option maxRecDepth 20000 in
theorem gX5_isBook_X5_goes : GoodIn wsX5_isBook (wsV RX5 107 RX5 yX5_goes wsX5_goes) := goodIn_app (goodIn_of _ (by decide +kernel)) ggX5_isBook_X5_goes
set_option maxRecDepth 20000 in
theorem ggX5_isBook_X5_putsBack : GoodIn wsX5_isBook wsX5_putsBack := goodIn_r _ [47, 48, 8, 49, 50, 6, 51, 52, 53, 54, 55, 56, 57, 58, 59, 60, 61, 62, 63, 64, 65, 66] (by decide +kernel) (by decide +kernel)
set_option maxRecDepth 20000 in
theorem gX5_isBook_X5_putsBack : GoodIn wsX5_isBook (wsV RX5 122 RX5 yX5_putsBack wsX5_putsBack) := goodIn_app (goodIn_of _ (by decide +kernel)) ggX5_isBook_X5_putsBack
theorem dX5_isBook_0 : decode cX5_isBook 0 = .ok (.iconst 1, 1) := by decide +kernel
theorem dX5_isBook_1 : decode cX5_isBook 1 = .ok (.istore_n 3, 1) := by decide +kernel
theorem dX5_isBook_2 : decode cX5_isBook 2 = .ok (.iconst 0, 1) := by decide +kernel
theorem dX5_isBook_3 : decode cX5_isBook 3 = .ok (.istore 4, 2) := by decide +kernel
theorem dX5_isBook_5 : decode cX5_isBook 5 = .ok (.iload 4, 2) := by decide +kernel
theorem dX5_isBook_7 : decode cX5_isBook 7 = .ok (.aload_n 0, 1) := by decide +kernel
theorem dX5_isBook_8 : decode cX5_isBook 8 = .ok (.getfield 28, 3) := by decide +kernel
theorem dX5_isBook_11 : decode cX5_isBook 11 = .ok (.iload_n 1, 1) := by decide +kernel
theorem dX5_isBook_12 : decode cX5_isBook 12 = .ok (.iaload, 1) := by decide +kernel
theorem dX5_isBook_13 : decode cX5_isBook 13 = .ok (.if_icmp .ge 46, 3) := by decide +kernel
theorem dX5_isBook_16 : decode cX5_isBook 16 = .ok (.iload_n 3, 1) := by decide +kernel
theorem dX5_isBook_17 : decode cX5_isBook 17 = .ok (.ifCond .eq 42, 3) := by decide +kernel
theorem dX5_isBook_20 : decode cX5_isBook 20 = .ok (.aload_n 0, 1) := by decide +kernel
theorem dX5_isBook_21 : decode cX5_isBook 21 = .ok (.getfield 31, 3) := by decide +kernel
theorem dX5_isBook_24 : decode cX5_isBook 24 = .ok (.bipush 40, 2) := by decide +kernel
theorem dX5_isBook_26 : decode cX5_isBook 26 = .ok (.iload_n 1, 1) := by decide +kernel
theorem dX5_isBook_27 : decode cX5_isBook 27 = .ok (.imul, 1) := by decide +kernel
theorem dX5_isBook_28 : decode cX5_isBook 28 = .ok (.iload 4, 2) := by decide +kernel
theorem dX5_isBook_30 : decode cX5_isBook 30 = .ok (.iadd, 1) := by decide +kernel
theorem dX5_isBook_31 : decode cX5_isBook 31 = .ok (.laload, 1) := by decide +kernel
theorem dX5_isBook_32 : decode cX5_isBook 32 = .ok (.aload_n 0, 1) := by decide +kernel
theorem dX5_isBook_33 : decode cX5_isBook 33 = .ok (.iload_n 2, 1) := by decide +kernel
theorem dX5_isBook_34 : decode cX5_isBook 34 = .ok (.iconst 3, 1) := by decide +kernel
theorem dX5_isBook_35 : decode cX5_isBook 35 = .ok (.invokevirtual 45, 3) := by decide +kernel
theorem dX5_isBook_38 : decode cX5_isBook 38 = .ok (.i2l, 1) := by decide +kernel
theorem dX5_isBook_39 : decode cX5_isBook 39 = .ok (.lcmp, 1) := by decide +kernel
theorem dX5_isBook_40 : decode cX5_isBook 40 = .ok (.ifCond .ne 7, 3) := by decide +kernel
theorem dX5_isBook_43 : decode cX5_isBook 43 = .ok (.iconst 1, 1) := by decide +kernel
theorem dX5_isBook_44 : decode cX5_isBook 44 = .ok (.goto 4, 3) := by decide +kernel
theorem dX5_isBook_47 : decode cX5_isBook 47 = .ok (.iconst 0, 1) := by decide +kernel
theorem dX5_isBook_48 : decode cX5_isBook 48 = .ok (.istore_n 3, 1) := by decide +kernel
theorem dX5_isBook_49 : decode cX5_isBook 49 = .ok (.aload_n 0, 1) := by decide +kernel
theorem dX5_isBook_50 : decode cX5_isBook 50 = .ok (.invokevirtual 107, 3) := by decide +kernel
theorem dX5_isBook_53 : decode cX5_isBook 53 = .ok (.iinc 4 1, 3) := by decide +kernel
theorem dX5_isBook_56 : decode cX5_isBook 56 = .ok (.goto (-51), 3) := by decide +kernel
theorem dX5_isBook_59 : decode cX5_isBook 59 = .ok (.aload_n 0, 1) := by decide +kernel
theorem dX5_isBook_60 : decode cX5_isBook 60 = .ok (.invokevirtual 122, 3) := by decide +kernel
theorem dX5_isBook_63 : decode cX5_isBook 63 = .ok (.iload_n 3, 1) := by decide +kernel
theorem dX5_isBook_64 : decode cX5_isBook 64 = .ok (.ireturn, 1) := by decide +kernel
set_option maxRecDepth 20000 in
theorem ggX5_read_X5_notAsked : GoodIn wsX5_read wsX5_notAsked := goodIn_r _ [5, 6, 7, 8, 9, 4, 10, 11, 12, 13, 14, 15, 16, 17, 18, 19, 20, 21, 22, 23, 86, 87, 88, 89, 90, 91, 92, 93, 94, 95, 96, 97, 98, 99, 100] (by decide +kernel) (by decide +kernel)
set_option maxRecDepth 20000 in
theorem gX5_read_X5_notAsked : GoodIn wsX5_read (wsV RX5 204 RX5 yX5_notAsked wsX5_notAsked) := goodIn_app (goodIn_of _ (by decide +kernel)) ggX5_read_X5_notAsked
set_option maxRecDepth 20000 in
theorem ggX5_read_X5_finds : GoodIn wsX5_read wsX5_finds := goodIn_r _ [27, 28, 6, 86, 87, 88, 89, 90, 91, 92, 93, 94, 95, 96, 97, 98, 99, 100] (by decide +kernel) (by decide +kernel)
set_option maxRecDepth 20000 in
theorem gX5_read_X5_finds : GoodIn wsX5_read (wsV RX5 37 RX5 yX5_finds wsX5_finds) := goodIn_app (goodIn_of _ (by decide +kernel)) ggX5_read_X5_finds
set_option maxRecDepth 20000 in
theorem ggX5_read_X5_thinks : GoodIn wsX5_read wsX5_thinks := goodIn_r _ [32, 23, 33, 34, 35, 4, 36, 86, 87, 88, 89, 90, 91, 92, 93, 94, 95, 96, 97, 98, 99, 100] (by decide +kernel) (by decide +kernel)
set_option maxRecDepth 20000 in
theorem gX5_read_X5_thinks : GoodIn wsX5_read (wsV RX5 119 RX5 yX5_thinks wsX5_thinks) := goodIn_app (goodIn_of _ (by decide +kernel)) ggX5_read_X5_thinks
set_option maxRecDepth 20000 in
theorem ggX5_read_X5_put : GoodIn wsX5_read wsX5_put := goodIn_r _ [40, 23, 86, 87, 88, 89, 90, 91, 92, 93, 94, 95, 96, 97, 98, 99, 100] (by decide +kernel) (by decide +kernel)
set_option maxRecDepth 20000 in
theorem gX5_read_X5_put : GoodIn wsX5_read (wsV RX5 66 RX5 yX5_put wsX5_put) := goodIn_app (goodIn_of _ (by decide +kernel)) ggX5_read_X5_put
set_option maxRecDepth 20000 in
theorem ggX5_read_X5_isBook : GoodIn wsX5_read wsX5_isBook := goodIn_r _ [44, 45, 46, 47, 48, 49, 4, 50, 23, 51, 52, 53, 54, 55, 56, 57, 58, 59, 60, 61, 37, 38, 39, 40, 62, 63, 64, 65, 66, 67, 68, 69, 70, 71, 72, 73, 74, 75, 76, 77, 78, 79, 80, 81, 82, 83, 84, 85, 33, 34, 35, 36, 86, 87, 88, 89, 90, 91, 92, 93, 94, 95, 96, 97, 98, 99, 100] (by decide +kernel) (by decide +kernel)
set_option maxRecDepth 20000 in
theorem gX5_read_X5_isBook : GoodIn wsX5_read (wsV RX5 207 RX5 yX5_isBook wsX5_isBook) := goodIn_app (goodIn_of _ (by decide +kernel)) ggX5_read_X5_isBook
theorem dX5_read_0 : decode cX5_read 0 = .ok (.aload_n 0, 1) := by decide +kernel
theorem dX5_read_1 : decode cX5_read 1 = .ok (.iload_n 1, 1) := by decide +kernel
theorem dX5_read_2 : decode cX5_read 2 = .ok (.iload_n 2, 1) := by decide +kernel
theorem dX5_read_3 : decode cX5_read 3 = .ok (.invokevirtual 204, 3) := by decide +kernel
theorem dX5_read_6 : decode cX5_read 6 = .ok (.istore_n 3, 1) := by decide +kernel
theorem dX5_read_7 : decode cX5_read 7 = .ok (.iload_n 3, 1) := by decide +kernel
theorem dX5_read_8 : decode cX5_read 8 = .ok (.ifCond .eq 9, 3) := by decide +kernel
theorem dX5_read_11 : decode cX5_read 11 = .ok (.aload_n 0, 1) := by decide +kernel
theorem dX5_read_12 : decode cX5_read 12 = .ok (.iload_n 3, 1) := by decide +kernel
theorem dX5_read_13 : decode cX5_read 13 = .ok (.invokevirtual 37, 3) := by decide +kernel
theorem dX5_read_16 : decode cX5_read 16 = .ok (.ireturn, 1) := by decide +kernel
theorem dX5_read_17 : decode cX5_read 17 = .ok (.aload_n 0, 1) := by decide +kernel
theorem dX5_read_18 : decode cX5_read 18 = .ok (.invokevirtual 119, 3) := by decide +kernel
theorem dX5_read_21 : decode cX5_read 21 = .ok (.iconst 0, 1) := by decide +kernel
theorem dX5_read_22 : decode cX5_read 22 = .ok (.istore 4, 2) := by decide +kernel
theorem dX5_read_24 : decode cX5_read 24 = .ok (.iconst 0, 1) := by decide +kernel
theorem dX5_read_25 : decode cX5_read 25 = .ok (.istore 5, 2) := by decide +kernel
theorem dX5_read_27 : decode cX5_read 27 = .ok (.iload 5, 2) := by decide +kernel
theorem dX5_read_29 : decode cX5_read 29 = .ok (.bipush 60, 2) := by decide +kernel
theorem dX5_read_31 : decode cX5_read 31 = .ok (.if_icmp .ge 50, 3) := by decide +kernel
theorem dX5_read_34 : decode cX5_read 34 = .ok (.aload_n 0, 1) := by decide +kernel
theorem dX5_read_35 : decode cX5_read 35 = .ok (.iload_n 2, 1) := by decide +kernel
theorem dX5_read_36 : decode cX5_read 36 = .ok (.iconst 0, 1) := by decide +kernel
theorem dX5_read_37 : decode cX5_read 37 = .ok (.iload 5, 2) := by decide +kernel
theorem dX5_read_39 : decode cX5_read 39 = .ok (.bipush 10, 2) := by decide +kernel
theorem dX5_read_41 : decode cX5_read 41 = .ok (.idiv, 1) := by decide +kernel
theorem dX5_read_42 : decode cX5_read 42 = .ok (.invokevirtual 66, 3) := by decide +kernel
theorem dX5_read_45 : decode cX5_read 45 = .ok (.aload_n 0, 1) := by decide +kernel
theorem dX5_read_46 : decode cX5_read 46 = .ok (.iload_n 2, 1) := by decide +kernel
theorem dX5_read_47 : decode cX5_read 47 = .ok (.iconst 2, 1) := by decide +kernel
theorem dX5_read_48 : decode cX5_read 48 = .ok (.iload 5, 2) := by decide +kernel
theorem dX5_read_50 : decode cX5_read 50 = .ok (.bipush 10, 2) := by decide +kernel
theorem dX5_read_52 : decode cX5_read 52 = .ok (.irem, 1) := by decide +kernel
theorem dX5_read_53 : decode cX5_read 53 = .ok (.invokevirtual 66, 3) := by decide +kernel
theorem dX5_read_56 : decode cX5_read 56 = .ok (.iload 4, 2) := by decide +kernel
theorem dX5_read_58 : decode cX5_read 58 = .ok (.aload_n 0, 1) := by decide +kernel
theorem dX5_read_59 : decode cX5_read 59 = .ok (.iload_n 1, 1) := by decide +kernel
theorem dX5_read_60 : decode cX5_read 60 = .ok (.iload_n 2, 1) := by decide +kernel
theorem dX5_read_61 : decode cX5_read 61 = .ok (.invokevirtual 207, 3) := by decide +kernel
theorem dX5_read_64 : decode cX5_read 64 = .ok (.ifCond .eq 7, 3) := by decide +kernel
theorem dX5_read_67 : decode cX5_read 67 = .ok (.iconst 1, 1) := by decide +kernel
theorem dX5_read_68 : decode cX5_read 68 = .ok (.goto 4, 3) := by decide +kernel
theorem dX5_read_71 : decode cX5_read 71 = .ok (.iconst 0, 1) := by decide +kernel
theorem dX5_read_72 : decode cX5_read 72 = .ok (.iadd, 1) := by decide +kernel
theorem dX5_read_73 : decode cX5_read 73 = .ok (.istore 4, 2) := by decide +kernel
theorem dX5_read_75 : decode cX5_read 75 = .ok (.iinc 5 1, 3) := by decide +kernel
theorem dX5_read_78 : decode cX5_read 78 = .ok (.goto (-51), 3) := by decide +kernel
theorem dX5_read_81 : decode cX5_read 81 = .ok (.iload 4, 2) := by decide +kernel
theorem dX5_read_83 : decode cX5_read 83 = .ok (.ireturn, 1) := by decide +kernel
set_option maxRecDepth 20000 in
theorem ggX5_image_X5_copyAll : GoodIn wsX5_image wsX5_copyAll := goodIn_r _ [7] (by decide +kernel) (by decide +kernel)
set_option maxRecDepth 20000 in
theorem gX5_image_X5_copyAll : GoodIn wsX5_image (va_wsS RX5 115 yX5_copyAll wsX5_copyAll) := goodIn_app (goodIn_of _ (by decide +kernel)) ggX5_image_X5_copyAll
theorem dX5_image_0 : decode cX5_image 0 = .ok (.aload_n 0, 1) := by decide +kernel
theorem dX5_image_1 : decode cX5_image 1 = .ok (.getfield 9, 3) := by decide +kernel
theorem dX5_image_4 : decode cX5_image 4 = .ok (.aload_n 0, 1) := by decide +kernel
theorem dX5_image_5 : decode cX5_image 5 = .ok (.getfield 13, 3) := by decide +kernel
theorem dX5_image_8 : decode cX5_image 8 = .ok (.invokestatic 115, 3) := by decide +kernel
theorem dX5_image_11 : decode cX5_image 11 = .ok (.aload_n 0, 1) := by decide +kernel
theorem dX5_image_12 : decode cX5_image 12 = .ok (.iconst 1, 1) := by decide +kernel
theorem dX5_image_13 : decode cX5_image 13 = .ok (.putfield 210, 3) := by decide +kernel
theorem dX5_image_16 : decode cX5_image 16 = .ok (.iconst 1, 1) := by decide +kernel
theorem dX5_image_17 : decode cX5_image 17 = .ok (.ireturn, 1) := by decide +kernel
set_option maxRecDepth 20000 in
theorem ggX5_undo_X5_finds : GoodIn wsX5_undo wsX5_finds := goodIn_r _ [9, 10, 11, 15, 16, 17, 18, 19, 20, 21, 22, 23, 24, 25, 26, 27, 28, 29] (by decide +kernel) (by decide +kernel)
set_option maxRecDepth 20000 in
theorem gX5_undo_X5_finds : GoodIn wsX5_undo (wsV RX5 37 RX5 yX5_finds wsX5_finds) := goodIn_app (goodIn_of _ (by decide +kernel)) ggX5_undo_X5_finds
set_option maxRecDepth 20000 in
theorem ggX5_undo_X5_copyAll : GoodIn wsX5_undo wsX5_copyAll := goodIn_r _ [14] (by decide +kernel) (by decide +kernel)
set_option maxRecDepth 20000 in
theorem gX5_undo_X5_copyAll : GoodIn wsX5_undo (va_wsS RX5 115 yX5_copyAll wsX5_copyAll) := goodIn_app (goodIn_of _ (by decide +kernel)) ggX5_undo_X5_copyAll
theorem dX5_undo_0 : decode cX5_undo 0 = .ok (.aload_n 0, 1) := by decide +kernel
theorem dX5_undo_1 : decode cX5_undo 1 = .ok (.getfield 210, 3) := by decide +kernel
theorem dX5_undo_4 : decode cX5_undo 4 = .ok (.ifCond .ne 10, 3) := by decide +kernel
theorem dX5_undo_7 : decode cX5_undo 7 = .ok (.aload_n 0, 1) := by decide +kernel
theorem dX5_undo_8 : decode cX5_undo 8 = .ok (.ldc 36, 2) := by decide +kernel
theorem dX5_undo_10 : decode cX5_undo 10 = .ok (.invokevirtual 37, 3) := by decide +kernel
theorem dX5_undo_13 : decode cX5_undo 13 = .ok (.ireturn, 1) := by decide +kernel
theorem dX5_undo_14 : decode cX5_undo 14 = .ok (.aload_n 0, 1) := by decide +kernel
theorem dX5_undo_15 : decode cX5_undo 15 = .ok (.getfield 13, 3) := by decide +kernel
theorem dX5_undo_18 : decode cX5_undo 18 = .ok (.aload_n 0, 1) := by decide +kernel
theorem dX5_undo_19 : decode cX5_undo 19 = .ok (.getfield 9, 3) := by decide +kernel
theorem dX5_undo_22 : decode cX5_undo 22 = .ok (.invokestatic 115, 3) := by decide +kernel
theorem dX5_undo_25 : decode cX5_undo 25 = .ok (.aload_n 0, 1) := by decide +kernel
theorem dX5_undo_26 : decode cX5_undo 26 = .ok (.getfield 9, 3) := by decide +kernel
theorem dX5_undo_29 : decode cX5_undo 29 = .ok (.iconst 4, 1) := by decide +kernel
theorem dX5_undo_30 : decode cX5_undo 30 = .ok (.iaload, 1) := by decide +kernel
theorem dX5_undo_31 : decode cX5_undo 31 = .ok (.ireturn, 1) := by decide +kernel
theorem dX5_tear_0 : decode cX5_tear 0 = .ok (.aload_n 0, 1) := by decide +kernel
theorem dX5_tear_1 : decode cX5_tear 1 = .ok (.getfield 210, 3) := by decide +kernel
theorem dX5_tear_4 : decode cX5_tear 4 = .ok (.ifCond .eq 7, 3) := by decide +kernel
theorem dX5_tear_7 : decode cX5_tear 7 = .ok (.iconst 1, 1) := by decide +kernel
theorem dX5_tear_8 : decode cX5_tear 8 = .ok (.goto 4, 3) := by decide +kernel
theorem dX5_tear_11 : decode cX5_tear 11 = .ok (.iconst 0, 1) := by decide +kernel
theorem dX5_tear_12 : decode cX5_tear 12 = .ok (.istore_n 1, 1) := by decide +kernel
theorem dX5_tear_13 : decode cX5_tear 13 = .ok (.aload_n 0, 1) := by decide +kernel
theorem dX5_tear_14 : decode cX5_tear 14 = .ok (.iconst 0, 1) := by decide +kernel
theorem dX5_tear_15 : decode cX5_tear 15 = .ok (.putfield 210, 3) := by decide +kernel
theorem dX5_tear_18 : decode cX5_tear 18 = .ok (.iload_n 1, 1) := by decide +kernel
theorem dX5_tear_19 : decode cX5_tear 19 = .ok (.ireturn, 1) := by decide +kernel
set_option maxRecDepth 20000 in
theorem ggX5_count_X5_sums : GoodIn wsX5_count wsX5_sums := goodIn_r _ [8, 1, 9, 10, 11, 7, 12, 18, 19, 20, 21, 22, 23, 24, 25, 26, 27, 28, 29, 30, 31, 32] (by decide +kernel) (by decide +kernel)
set_option maxRecDepth 20000 in
theorem gX5_count_X5_sums : GoodIn wsX5_count (wsV RX5 63 RX5 yX5_sums wsX5_sums) := goodIn_app (goodIn_of _ (by decide +kernel)) ggX5_count_X5_sums
set_option maxRecDepth 20000 in
theorem ggX5_count_X5_finds : GoodIn wsX5_count wsX5_finds := goodIn_r _ [16, 17, 3, 18, 19, 20, 21, 22, 23, 24, 25, 26, 27, 28, 29, 30, 31, 32] (by decide +kernel) (by decide +kernel)
set_option maxRecDepth 20000 in
theorem gX5_count_X5_finds : GoodIn wsX5_count (wsV RX5 37 RX5 yX5_finds wsX5_finds) := goodIn_app (goodIn_of _ (by decide +kernel)) ggX5_count_X5_finds
theorem dX5_count_0 : decode cX5_count 0 = .ok (.iload_n 1, 1) := by decide +kernel
theorem dX5_count_1 : decode cX5_count 1 = .ok (.tableswitch 62 0 3 #[31, 38, 43, 56], 31) := by decide +kernel
theorem dX5_count_32 : decode cX5_count 32 = .ok (.aload_n 0, 1) := by decide +kernel
theorem dX5_count_33 : decode cX5_count 33 = .ok (.getfield 9, 3) := by decide +kernel
theorem dX5_count_36 : decode cX5_count 36 = .ok (.iconst 4, 1) := by decide +kernel
theorem dX5_count_37 : decode cX5_count 37 = .ok (.iaload, 1) := by decide +kernel
theorem dX5_count_38 : decode cX5_count 38 = .ok (.ireturn, 1) := by decide +kernel
theorem dX5_count_39 : decode cX5_count 39 = .ok (.aload_n 0, 1) := by decide +kernel
theorem dX5_count_40 : decode cX5_count 40 = .ok (.getfield 137, 3) := by decide +kernel
theorem dX5_count_43 : decode cX5_count 43 = .ok (.ireturn, 1) := by decide +kernel
theorem dX5_count_44 : decode cX5_count 44 = .ok (.aload_n 0, 1) := by decide +kernel
theorem dX5_count_45 : decode cX5_count 45 = .ok (.getfield 9, 3) := by decide +kernel
theorem dX5_count_48 : decode cX5_count 48 = .ok (.iconst 4, 1) := by decide +kernel
theorem dX5_count_49 : decode cX5_count 49 = .ok (.iaload, 1) := by decide +kernel
theorem dX5_count_50 : decode cX5_count 50 = .ok (.aload_n 0, 1) := by decide +kernel
theorem dX5_count_51 : decode cX5_count 51 = .ok (.iconst 1, 1) := by decide +kernel
theorem dX5_count_52 : decode cX5_count 52 = .ok (.invokevirtual 63, 3) := by decide +kernel
theorem dX5_count_55 : decode cX5_count 55 = .ok (.isub, 1) := by decide +kernel
theorem dX5_count_56 : decode cX5_count 56 = .ok (.ireturn, 1) := by decide +kernel
theorem dX5_count_57 : decode cX5_count 57 = .ok (.aload_n 0, 1) := by decide +kernel
theorem dX5_count_58 : decode cX5_count 58 = .ok (.iconst 2, 1) := by decide +kernel
theorem dX5_count_59 : decode cX5_count 59 = .ok (.invokevirtual 63, 3) := by decide +kernel
theorem dX5_count_62 : decode cX5_count 62 = .ok (.ireturn, 1) := by decide +kernel
theorem dX5_count_63 : decode cX5_count 63 = .ok (.aload_n 0, 1) := by decide +kernel
theorem dX5_count_64 : decode cX5_count 64 = .ok (.ldc 35, 2) := by decide +kernel
theorem dX5_count_66 : decode cX5_count 66 = .ok (.invokevirtual 37, 3) := by decide +kernel
theorem dX5_count_69 : decode cX5_count 69 = .ok (.ireturn, 1) := by decide +kernel
set_option maxRecDepth 20000 in
theorem ggX5_status_X5_in : GoodIn wsX5_status wsX5_in := goodIn_r _ [6] (by decide +kernel) (by decide +kernel)
set_option maxRecDepth 20000 in
theorem gX5_status_X5_in : GoodIn wsX5_status (va_wsS RX5 41 yX5_in wsX5_in) := goodIn_app (goodIn_of _ (by decide +kernel)) ggX5_status_X5_in
set_option maxRecDepth 20000 in
theorem ggX5_status_X5_finds : GoodIn wsX5_status wsX5_finds := goodIn_r _ [10, 2, 1, 11, 12, 13, 14, 15, 16, 17, 18, 19, 20, 21, 22, 23, 24, 25] (by decide +kernel) (by decide +kernel)
set_option maxRecDepth 20000 in
theorem gX5_status_X5_finds : GoodIn wsX5_status (wsV RX5 37 RX5 yX5_finds wsX5_finds) := goodIn_app (goodIn_of _ (by decide +kernel)) ggX5_status_X5_finds
theorem dX5_status_0 : decode cX5_status 0 = .ok (.iload_n 1, 1) := by decide +kernel
theorem dX5_status_1 : decode cX5_status 1 = .ok (.i2l, 1) := by decide +kernel
theorem dX5_status_2 : decode cX5_status 2 = .ok (.iconst (-1), 1) := by decide +kernel
theorem dX5_status_3 : decode cX5_status 3 = .ok (.bipush 6, 2) := by decide +kernel
theorem dX5_status_5 : decode cX5_status 5 = .ok (.invokestatic 41, 3) := by decide +kernel
theorem dX5_status_8 : decode cX5_status 8 = .ok (.ifCond .ne 10, 3) := by decide +kernel
theorem dX5_status_11 : decode cX5_status 11 = .ok (.aload_n 0, 1) := by decide +kernel
theorem dX5_status_12 : decode cX5_status 12 = .ok (.ldc 35, 2) := by decide +kernel
theorem dX5_status_14 : decode cX5_status 14 = .ok (.invokevirtual 37, 3) := by decide +kernel
theorem dX5_status_17 : decode cX5_status 17 = .ok (.ireturn, 1) := by decide +kernel
theorem dX5_status_18 : decode cX5_status 18 = .ok (.iconst 0, 1) := by decide +kernel
theorem dX5_status_19 : decode cX5_status 19 = .ok (.istore_n 2, 1) := by decide +kernel
theorem dX5_status_20 : decode cX5_status 20 = .ok (.iconst 0, 1) := by decide +kernel
theorem dX5_status_21 : decode cX5_status 21 = .ok (.istore_n 3, 1) := by decide +kernel
theorem dX5_status_22 : decode cX5_status 22 = .ok (.iload_n 3, 1) := by decide +kernel
theorem dX5_status_23 : decode cX5_status 23 = .ok (.bipush 7, 2) := by decide +kernel
theorem dX5_status_25 : decode cX5_status 25 = .ok (.if_icmp .ge 31, 3) := by decide +kernel
theorem dX5_status_28 : decode cX5_status 28 = .ok (.iload_n 2, 1) := by decide +kernel
theorem dX5_status_29 : decode cX5_status 29 = .ok (.iload_n 1, 1) := by decide +kernel
theorem dX5_status_30 : decode cX5_status 30 = .ok (.ifCond .lt 8, 3) := by decide +kernel
theorem dX5_status_33 : decode cX5_status 33 = .ok (.iload_n 1, 1) := by decide +kernel
theorem dX5_status_34 : decode cX5_status 34 = .ok (.iload_n 3, 1) := by decide +kernel
theorem dX5_status_35 : decode cX5_status 35 = .ok (.if_icmp .ne 12, 3) := by decide +kernel
theorem dX5_status_38 : decode cX5_status 38 = .ok (.aload_n 0, 1) := by decide +kernel
theorem dX5_status_39 : decode cX5_status 39 = .ok (.getfield 19, 3) := by decide +kernel
theorem dX5_status_42 : decode cX5_status 42 = .ok (.iload_n 3, 1) := by decide +kernel
theorem dX5_status_43 : decode cX5_status 43 = .ok (.iaload, 1) := by decide +kernel
theorem dX5_status_44 : decode cX5_status 44 = .ok (.goto 4, 3) := by decide +kernel
theorem dX5_status_47 : decode cX5_status 47 = .ok (.iconst 0, 1) := by decide +kernel
theorem dX5_status_48 : decode cX5_status 48 = .ok (.iadd, 1) := by decide +kernel
theorem dX5_status_49 : decode cX5_status 49 = .ok (.istore_n 2, 1) := by decide +kernel
theorem dX5_status_50 : decode cX5_status 50 = .ok (.iinc 3 1, 3) := by decide +kernel
theorem dX5_status_53 : decode cX5_status 53 = .ok (.goto (-31), 3) := by decide +kernel
theorem dX5_status_56 : decode cX5_status 56 = .ok (.iload_n 2, 1) := by decide +kernel
theorem dX5_status_57 : decode cX5_status 57 = .ok (.ireturn, 1) := by decide +kernel
theorem dJ6_bitCount_0f7a4_0 : decode cJ6_bitCount_0f7a4 0 = .ok (.iload_n 0, 1) := by decide +kernel
theorem dJ6_bitCount_0f7a4_1 : decode cJ6_bitCount_0f7a4 1 = .ok (.iload_n 0, 1) := by decide +kernel
theorem dJ6_bitCount_0f7a4_2 : decode cJ6_bitCount_0f7a4 2 = .ok (.iconst 1, 1) := by decide +kernel
theorem dJ6_bitCount_0f7a4_3 : decode cJ6_bitCount_0f7a4 3 = .ok (.iushr, 1) := by decide +kernel
theorem dJ6_bitCount_0f7a4_4 : decode cJ6_bitCount_0f7a4 4 = .ok (.ldc_w 265, 3) := by decide +kernel
theorem dJ6_bitCount_0f7a4_7 : decode cJ6_bitCount_0f7a4 7 = .ok (.iand, 1) := by decide +kernel
theorem dJ6_bitCount_0f7a4_8 : decode cJ6_bitCount_0f7a4 8 = .ok (.isub, 1) := by decide +kernel
theorem dJ6_bitCount_0f7a4_9 : decode cJ6_bitCount_0f7a4 9 = .ok (.istore_n 0, 1) := by decide +kernel
theorem dJ6_bitCount_0f7a4_10 : decode cJ6_bitCount_0f7a4 10 = .ok (.iload_n 0, 1) := by decide +kernel
theorem dJ6_bitCount_0f7a4_11 : decode cJ6_bitCount_0f7a4 11 = .ok (.ldc_w 266, 3) := by decide +kernel
theorem dJ6_bitCount_0f7a4_14 : decode cJ6_bitCount_0f7a4 14 = .ok (.iand, 1) := by decide +kernel
theorem dJ6_bitCount_0f7a4_15 : decode cJ6_bitCount_0f7a4 15 = .ok (.iload_n 0, 1) := by decide +kernel
theorem dJ6_bitCount_0f7a4_16 : decode cJ6_bitCount_0f7a4 16 = .ok (.iconst 2, 1) := by decide +kernel
theorem dJ6_bitCount_0f7a4_17 : decode cJ6_bitCount_0f7a4 17 = .ok (.iushr, 1) := by decide +kernel
theorem dJ6_bitCount_0f7a4_18 : decode cJ6_bitCount_0f7a4 18 = .ok (.ldc_w 266, 3) := by decide +kernel
theorem dJ6_bitCount_0f7a4_21 : decode cJ6_bitCount_0f7a4 21 = .ok (.iand, 1) := by decide +kernel
theorem dJ6_bitCount_0f7a4_22 : decode cJ6_bitCount_0f7a4 22 = .ok (.iadd, 1) := by decide +kernel
theorem dJ6_bitCount_0f7a4_23 : decode cJ6_bitCount_0f7a4 23 = .ok (.istore_n 0, 1) := by decide +kernel
theorem dJ6_bitCount_0f7a4_24 : decode cJ6_bitCount_0f7a4 24 = .ok (.iload_n 0, 1) := by decide +kernel
theorem dJ6_bitCount_0f7a4_25 : decode cJ6_bitCount_0f7a4 25 = .ok (.iload_n 0, 1) := by decide +kernel
theorem dJ6_bitCount_0f7a4_26 : decode cJ6_bitCount_0f7a4 26 = .ok (.iconst 4, 1) := by decide +kernel
theorem dJ6_bitCount_0f7a4_27 : decode cJ6_bitCount_0f7a4 27 = .ok (.iushr, 1) := by decide +kernel
theorem dJ6_bitCount_0f7a4_28 : decode cJ6_bitCount_0f7a4 28 = .ok (.iadd, 1) := by decide +kernel
theorem dJ6_bitCount_0f7a4_29 : decode cJ6_bitCount_0f7a4 29 = .ok (.ldc_w 267, 3) := by decide +kernel
theorem dJ6_bitCount_0f7a4_32 : decode cJ6_bitCount_0f7a4 32 = .ok (.iand, 1) := by decide +kernel
theorem dJ6_bitCount_0f7a4_33 : decode cJ6_bitCount_0f7a4 33 = .ok (.istore_n 0, 1) := by decide +kernel
theorem dJ6_bitCount_0f7a4_34 : decode cJ6_bitCount_0f7a4 34 = .ok (.iload_n 0, 1) := by decide +kernel
theorem dJ6_bitCount_0f7a4_35 : decode cJ6_bitCount_0f7a4 35 = .ok (.iload_n 0, 1) := by decide +kernel
theorem dJ6_bitCount_0f7a4_36 : decode cJ6_bitCount_0f7a4 36 = .ok (.bipush 8, 2) := by decide +kernel
theorem dJ6_bitCount_0f7a4_38 : decode cJ6_bitCount_0f7a4 38 = .ok (.iushr, 1) := by decide +kernel
theorem dJ6_bitCount_0f7a4_39 : decode cJ6_bitCount_0f7a4 39 = .ok (.iadd, 1) := by decide +kernel
theorem dJ6_bitCount_0f7a4_40 : decode cJ6_bitCount_0f7a4 40 = .ok (.istore_n 0, 1) := by decide +kernel
theorem dJ6_bitCount_0f7a4_41 : decode cJ6_bitCount_0f7a4 41 = .ok (.iload_n 0, 1) := by decide +kernel
theorem dJ6_bitCount_0f7a4_42 : decode cJ6_bitCount_0f7a4 42 = .ok (.iload_n 0, 1) := by decide +kernel
theorem dJ6_bitCount_0f7a4_43 : decode cJ6_bitCount_0f7a4 43 = .ok (.bipush 16, 2) := by decide +kernel
theorem dJ6_bitCount_0f7a4_45 : decode cJ6_bitCount_0f7a4 45 = .ok (.iushr, 1) := by decide +kernel
theorem dJ6_bitCount_0f7a4_46 : decode cJ6_bitCount_0f7a4 46 = .ok (.iadd, 1) := by decide +kernel
theorem dJ6_bitCount_0f7a4_47 : decode cJ6_bitCount_0f7a4 47 = .ok (.istore_n 0, 1) := by decide +kernel
theorem dJ6_bitCount_0f7a4_48 : decode cJ6_bitCount_0f7a4 48 = .ok (.iload_n 0, 1) := by decide +kernel
theorem dJ6_bitCount_0f7a4_49 : decode cJ6_bitCount_0f7a4 49 = .ok (.bipush 63, 2) := by decide +kernel
theorem dJ6_bitCount_0f7a4_51 : decode cJ6_bitCount_0f7a4 51 = .ok (.iand, 1) := by decide +kernel
theorem dJ6_bitCount_0f7a4_52 : decode cJ6_bitCount_0f7a4 52 = .ok (.ireturn, 1) := by decide +kernel
theorem dJ9_max_7cf53_0 : decode cJ9_max_7cf53 0 = .ok (.iload_n 0, 1) := by decide +kernel
theorem dJ9_max_7cf53_1 : decode cJ9_max_7cf53 1 = .ok (.iload_n 1, 1) := by decide +kernel
theorem dJ9_max_7cf53_2 : decode cJ9_max_7cf53 2 = .ok (.if_icmp .lt 7, 3) := by decide +kernel
theorem dJ9_max_7cf53_5 : decode cJ9_max_7cf53 5 = .ok (.iload_n 0, 1) := by decide +kernel
theorem dJ9_max_7cf53_6 : decode cJ9_max_7cf53 6 = .ok (.goto 4, 3) := by decide +kernel
theorem dJ9_max_7cf53_9 : decode cJ9_max_7cf53 9 = .ok (.iload_n 1, 1) := by decide +kernel
theorem dJ9_max_7cf53_10 : decode cJ9_max_7cf53 10 = .ok (.ireturn, 1) := by decide +kernel
theorem dJ9_min_7cf53_0 : decode cJ9_min_7cf53 0 = .ok (.iload_n 0, 1) := by decide +kernel
theorem dJ9_min_7cf53_1 : decode cJ9_min_7cf53 1 = .ok (.iload_n 1, 1) := by decide +kernel
theorem dJ9_min_7cf53_2 : decode cJ9_min_7cf53 2 = .ok (.if_icmp .gt 7, 3) := by decide +kernel
theorem dJ9_min_7cf53_5 : decode cJ9_min_7cf53 5 = .ok (.iload_n 0, 1) := by decide +kernel
theorem dJ9_min_7cf53_6 : decode cJ9_min_7cf53 6 = .ok (.goto 4, 3) := by decide +kernel
theorem dJ9_min_7cf53_9 : decode cJ9_min_7cf53 9 = .ok (.iload_n 1, 1) := by decide +kernel
theorem dJ9_min_7cf53_10 : decode cJ9_min_7cf53 10 = .ok (.ireturn, 1) := by decide +kernel
set_option maxRecDepth 20000 in
theorem ggJ0_length_8abf5_J0_coder_7d493 : GoodIn wsJ0_length_8abf5 wsJ0_coder_7d493 := goodIn_r _ [6, 7, 8] (by decide +kernel) (by decide +kernel)
set_option maxRecDepth 20000 in
theorem gJ0_length_8abf5_J0_coder_7d493 : GoodIn wsJ0_length_8abf5 (wsV RJ0 335 RJ0 yJ0_coder_7d493 wsJ0_coder_7d493) := goodIn_app (goodIn_of _ (by decide +kernel)) ggJ0_length_8abf5_J0_coder_7d493
theorem dJ0_length_8abf5_0 : decode cJ0_length_8abf5 0 = .ok (.aload_n 0, 1) := by decide +kernel
theorem dJ0_length_8abf5_1 : decode cJ0_length_8abf5 1 = .ok (.getfield 9, 3) := by decide +kernel
theorem dJ0_length_8abf5_4 : decode cJ0_length_8abf5 4 = .ok (.arraylength, 1) := by decide +kernel
theorem dJ0_length_8abf5_5 : decode cJ0_length_8abf5 5 = .ok (.aload_n 0, 1) := by decide +kernel
theorem dJ0_length_8abf5_6 : decode cJ0_length_8abf5 6 = .ok (.invokevirtual 335, 3) := by decide +kernel
theorem dJ0_length_8abf5_9 : decode cJ0_length_8abf5 9 = .ok (.ishr, 1) := by decide +kernel
theorem dJ0_length_8abf5_10 : decode cJ0_length_8abf5 10 = .ok (.ireturn, 1) := by decide +kernel
set_option maxRecDepth 20000 in
theorem ggJ0_charAt_5068e_J0_isLatin1_aae02 : GoodIn wsJ0_charAt_5068e wsJ0_isLatin1_aae02 := goodIn_r _ [6, 7, 8] (by decide +kernel) (by decide +kernel)
set_option maxRecDepth 20000 in
theorem gJ0_charAt_5068e_J0_isLatin1_aae02 : GoodIn wsJ0_charAt_5068e (wsV RJ0 492 RJ0 yJ0_isLatin1_aae02 wsJ0_isLatin1_aae02) := goodIn_app (goodIn_of _ (by decide +kernel)) ggJ0_charAt_5068e_J0_isLatin1_aae02
set_option maxRecDepth 20000 in
theorem ggJ0_charAt_5068e_J1_charAt_3b067 : GoodIn wsJ0_charAt_5068e wsJ1_charAt_3b067 := goodIn_r _ [12, 13, 14, 5, 15, 16, 17, 18, 19, 20] (by decide +kernel) (by decide +kernel)
set_option maxRecDepth 20000 in
theorem gJ0_charAt_5068e_J1_charAt_3b067 : GoodIn wsJ0_charAt_5068e (va_wsS RJ0 495 yJ1_charAt_3b067 wsJ1_charAt_3b067) := goodIn_app (goodIn_of _ (by decide +kernel)) ggJ0_charAt_5068e_J1_charAt_3b067
set_option maxRecDepth 20000 in
theorem ggJ0_charAt_5068e_J2_charAt_3b067 : GoodIn wsJ0_charAt_5068e wsJ2_charAt_3b067 := goodIn_r _ [24, 25, 26, 23, 27, 28, 29, 30, 31, 14, 5, 15, 16, 17, 18, 19, 20, 32, 33, 34, 35, 36, 37] (by decide +kernel) (by decide +kernel)
set_option maxRecDepth 20000 in
theorem gJ0_charAt_5068e_J2_charAt_3b067 : GoodIn wsJ0_charAt_5068e (va_wsS RJ0 498 yJ2_charAt_3b067 wsJ2_charAt_3b067) := goodIn_app (goodIn_of _ (by decide +kernel)) ggJ0_charAt_5068e_J2_charAt_3b067
theorem dJ0_charAt_5068e_0 : decode cJ0_charAt_5068e 0 = .ok (.aload_n 0, 1) := by decide +kernel
theorem dJ0_charAt_5068e_1 : decode cJ0_charAt_5068e 1 = .ok (.invokevirtual 492, 3) := by decide +kernel
theorem dJ0_charAt_5068e_4 : decode cJ0_charAt_5068e 4 = .ok (.ifCond .eq 12, 3) := by decide +kernel
theorem dJ0_charAt_5068e_7 : decode cJ0_charAt_5068e 7 = .ok (.aload_n 0, 1) := by decide +kernel
theorem dJ0_charAt_5068e_8 : decode cJ0_charAt_5068e 8 = .ok (.getfield 9, 3) := by decide +kernel
theorem dJ0_charAt_5068e_11 : decode cJ0_charAt_5068e 11 = .ok (.iload_n 1, 1) := by decide +kernel
theorem dJ0_charAt_5068e_12 : decode cJ0_charAt_5068e 12 = .ok (.invokestatic 495, 3) := by decide +kernel
theorem dJ0_charAt_5068e_15 : decode cJ0_charAt_5068e 15 = .ok (.ireturn, 1) := by decide +kernel
theorem dJ0_charAt_5068e_16 : decode cJ0_charAt_5068e 16 = .ok (.aload_n 0, 1) := by decide +kernel
theorem dJ0_charAt_5068e_17 : decode cJ0_charAt_5068e 17 = .ok (.getfield 9, 3) := by decide +kernel
theorem dJ0_charAt_5068e_20 : decode cJ0_charAt_5068e 20 = .ok (.iload_n 1, 1) := by decide +kernel
theorem dJ0_charAt_5068e_21 : decode cJ0_charAt_5068e 21 = .ok (.invokestatic 498, 3) := by decide +kernel
theorem dJ0_charAt_5068e_24 : decode cJ0_charAt_5068e 24 = .ok (.ireturn, 1) := by decide +kernel
theorem dJ0_coder_7d493_0 : decode cJ0_coder_7d493 0 = .ok (.getstatic 38, 3) := by decide +kernel
theorem dJ0_coder_7d493_3 : decode cJ0_coder_7d493 3 = .ok (.ifCond .eq 10, 3) := by decide +kernel
theorem dJ0_coder_7d493_6 : decode cJ0_coder_7d493 6 = .ok (.aload_n 0, 1) := by decide +kernel
theorem dJ0_coder_7d493_7 : decode cJ0_coder_7d493 7 = .ok (.getfield 15, 3) := by decide +kernel
theorem dJ0_coder_7d493_10 : decode cJ0_coder_7d493 10 = .ok (.goto 4, 3) := by decide +kernel
theorem dJ0_coder_7d493_13 : decode cJ0_coder_7d493 13 = .ok (.iconst 1, 1) := by decide +kernel
theorem dJ0_coder_7d493_14 : decode cJ0_coder_7d493 14 = .ok (.ireturn, 1) := by decide +kernel
theorem dJ0_isLatin1_aae02_0 : decode cJ0_isLatin1_aae02 0 = .ok (.getstatic 38, 3) := by decide +kernel
theorem dJ0_isLatin1_aae02_3 : decode cJ0_isLatin1_aae02 3 = .ok (.ifCond .eq 14, 3) := by decide +kernel
theorem dJ0_isLatin1_aae02_6 : decode cJ0_isLatin1_aae02 6 = .ok (.aload_n 0, 1) := by decide +kernel
theorem dJ0_isLatin1_aae02_7 : decode cJ0_isLatin1_aae02 7 = .ok (.getfield 15, 3) := by decide +kernel
theorem dJ0_isLatin1_aae02_10 : decode cJ0_isLatin1_aae02 10 = .ok (.ifCond .ne 7, 3) := by decide +kernel
theorem dJ0_isLatin1_aae02_13 : decode cJ0_isLatin1_aae02 13 = .ok (.iconst 1, 1) := by decide +kernel
theorem dJ0_isLatin1_aae02_14 : decode cJ0_isLatin1_aae02 14 = .ok (.goto 4, 3) := by decide +kernel
theorem dJ0_isLatin1_aae02_17 : decode cJ0_isLatin1_aae02 17 = .ok (.iconst 0, 1) := by decide +kernel
theorem dJ0_isLatin1_aae02_18 : decode cJ0_isLatin1_aae02 18 = .ok (.ireturn, 1) := by decide +kernel
set_option maxRecDepth 20000 in
theorem ggJ0_checkIndex_df160_J3_checkIndex_8e157 : GoodIn wsJ0_checkIndex_df160 wsJ3_checkIndex_8e157 := goodIn_r _ [5] (by decide +kernel) (by decide +kernel)
set_option maxRecDepth 20000 in
theorem gJ0_checkIndex_df160_J3_checkIndex_8e157 : GoodIn wsJ0_checkIndex_df160 (va_wsS RJ0 1059 yJ3_checkIndex_8e157 wsJ3_checkIndex_8e157) := goodIn_app (goodIn_of _ (by decide +kernel)) ggJ0_checkIndex_df160_J3_checkIndex_8e157
theorem dJ0_checkIndex_df160_0 : decode cJ0_checkIndex_df160 0 = .ok (.iload_n 0, 1) := by decide +kernel
theorem dJ0_checkIndex_df160_1 : decode cJ0_checkIndex_df160 1 = .ok (.iload_n 1, 1) := by decide +kernel
theorem dJ0_checkIndex_df160_2 : decode cJ0_checkIndex_df160 2 = .ok (.getstatic 1053, 3) := by decide +kernel
theorem dJ0_checkIndex_df160_5 : decode cJ0_checkIndex_df160 5 = .ok (.invokestatic 1059, 3) := by decide +kernel
theorem dJ0_checkIndex_df160_8 : decode cJ0_checkIndex_df160 8 = .ok (.pop, 1) := by decide +kernel
theorem dJ0_checkIndex_df160_9 : decode cJ0_checkIndex_df160 9 = .ok (.return_, 1) := by decide +kernel
set_option maxRecDepth 20000 in
theorem ggJ1_charAt_3b067_J0_checkIndex_df160 : GoodIn wsJ1_charAt_3b067 wsJ0_checkIndex_df160 := goodIn_r _ [4, 5, 6, 7, 8, 9] (by decide +kernel) (by decide +kernel)
set_option maxRecDepth 20000 in
theorem gJ1_charAt_3b067_J0_checkIndex_df160 : GoodIn wsJ1_charAt_3b067 (va_wsS RJ1 9 yJ0_checkIndex_df160 wsJ0_checkIndex_df160) := goodIn_app (goodIn_of _ (by decide +kernel)) ggJ1_charAt_3b067_J0_checkIndex_df160
theorem dJ1_charAt_3b067_0 : decode cJ1_charAt_3b067 0 = .ok (.iload_n 1, 1) := by decide +kernel
theorem dJ1_charAt_3b067_1 : decode cJ1_charAt_3b067 1 = .ok (.aload_n 0, 1) := by decide +kernel
theorem dJ1_charAt_3b067_2 : decode cJ1_charAt_3b067 2 = .ok (.arraylength, 1) := by decide +kernel
theorem dJ1_charAt_3b067_3 : decode cJ1_charAt_3b067 3 = .ok (.invokestatic 9, 3) := by decide +kernel
theorem dJ1_charAt_3b067_6 : decode cJ1_charAt_3b067 6 = .ok (.aload_n 0, 1) := by decide +kernel
theorem dJ1_charAt_3b067_7 : decode cJ1_charAt_3b067 7 = .ok (.iload_n 1, 1) := by decide +kernel
theorem dJ1_charAt_3b067_8 : decode cJ1_charAt_3b067 8 = .ok (.baload, 1) := by decide +kernel
theorem dJ1_charAt_3b067_9 : decode cJ1_charAt_3b067 9 = .ok (.sipush 255, 3) := by decide +kernel
theorem dJ1_charAt_3b067_12 : decode cJ1_charAt_3b067 12 = .ok (.iand, 1) := by decide +kernel
theorem dJ1_charAt_3b067_13 : decode cJ1_charAt_3b067 13 = .ok (.i2c, 1) := by decide +kernel
theorem dJ1_charAt_3b067_14 : decode cJ1_charAt_3b067 14 = .ok (.ireturn, 1) := by decide +kernel
set_option maxRecDepth 20000 in
theorem ggJ2_getChar_3b067_J2_length_9d52b : GoodIn wsJ2_getChar_3b067 wsJ2_length_9d52b := goodIn_r _ [7] (by decide +kernel) (by decide +kernel)
set_option maxRecDepth 20000 in
theorem gJ2_getChar_3b067_J2_length_9d52b : GoodIn wsJ2_getChar_3b067 (va_wsS RJ2 48 yJ2_length_9d52b wsJ2_length_9d52b) := goodIn_app (goodIn_of _ (by decide +kernel)) ggJ2_getChar_3b067_J2_length_9d52b
theorem dJ2_getChar_3b067_0 : decode cJ2_getChar_3b067 0 = .ok (.getstatic 44, 3) := by decide +kernel
theorem dJ2_getChar_3b067_3 : decode cJ2_getChar_3b067 3 = .ok (.ifCond .ne 25, 3) := by decide +kernel
theorem dJ2_getChar_3b067_6 : decode cJ2_getChar_3b067 6 = .ok (.iload_n 1, 1) := by decide +kernel
theorem dJ2_getChar_3b067_7 : decode cJ2_getChar_3b067 7 = .ok (.ifCond .lt 11, 3) := by decide +kernel
theorem dJ2_getChar_3b067_10 : decode cJ2_getChar_3b067 10 = .ok (.iload_n 1, 1) := by decide +kernel
theorem dJ2_getChar_3b067_11 : decode cJ2_getChar_3b067 11 = .ok (.aload_n 0, 1) := by decide +kernel
theorem dJ2_getChar_3b067_12 : decode cJ2_getChar_3b067 12 = .ok (.invokestatic 48, 3) := by decide +kernel
theorem dJ2_getChar_3b067_15 : decode cJ2_getChar_3b067 15 = .ok (.if_icmp .lt 13, 3) := by decide +kernel
theorem dJ2_getChar_3b067_18 : decode cJ2_getChar_3b067 18 = .ok (.new 52, 3) := by decide +kernel
theorem dJ2_getChar_3b067_21 : decode cJ2_getChar_3b067 21 = .ok (.dup, 1) := by decide +kernel
theorem dJ2_getChar_3b067_22 : decode cJ2_getChar_3b067 22 = .ok (.ldc 54, 2) := by decide +kernel
theorem dJ2_getChar_3b067_24 : decode cJ2_getChar_3b067 24 = .ok (.invokespecial 56, 3) := by decide +kernel
theorem dJ2_getChar_3b067_27 : decode cJ2_getChar_3b067 27 = .ok (.athrow, 1) := by decide +kernel
theorem dJ2_getChar_3b067_28 : decode cJ2_getChar_3b067 28 = .ok (.iload_n 1, 1) := by decide +kernel
theorem dJ2_getChar_3b067_29 : decode cJ2_getChar_3b067 29 = .ok (.iconst 1, 1) := by decide +kernel
theorem dJ2_getChar_3b067_30 : decode cJ2_getChar_3b067 30 = .ok (.ishl, 1) := by decide +kernel
theorem dJ2_getChar_3b067_31 : decode cJ2_getChar_3b067 31 = .ok (.istore_n 1, 1) := by decide +kernel
theorem dJ2_getChar_3b067_32 : decode cJ2_getChar_3b067 32 = .ok (.aload_n 0, 1) := by decide +kernel
theorem dJ2_getChar_3b067_33 : decode cJ2_getChar_3b067 33 = .ok (.iload_n 1, 1) := by decide +kernel
theorem dJ2_getChar_3b067_34 : decode cJ2_getChar_3b067 34 = .ok (.iinc 1 1, 3) := by decide +kernel
theorem dJ2_getChar_3b067_37 : decode cJ2_getChar_3b067 37 = .ok (.baload, 1) := by decide +kernel
theorem dJ2_getChar_3b067_38 : decode cJ2_getChar_3b067 38 = .ok (.sipush 255, 3) := by decide +kernel
theorem dJ2_getChar_3b067_41 : decode cJ2_getChar_3b067 41 = .ok (.iand, 1) := by decide +kernel
theorem dJ2_getChar_3b067_42 : decode cJ2_getChar_3b067 42 = .ok (.getstatic 59, 3) := by decide +kernel
theorem dJ2_getChar_3b067_45 : decode cJ2_getChar_3b067 45 = .ok (.ishl, 1) := by decide +kernel
theorem dJ2_getChar_3b067_46 : decode cJ2_getChar_3b067 46 = .ok (.aload_n 0, 1) := by decide +kernel
theorem dJ2_getChar_3b067_47 : decode cJ2_getChar_3b067 47 = .ok (.iload_n 1, 1) := by decide +kernel
theorem dJ2_getChar_3b067_48 : decode cJ2_getChar_3b067 48 = .ok (.baload, 1) := by decide +kernel
theorem dJ2_getChar_3b067_49 : decode cJ2_getChar_3b067 49 = .ok (.sipush 255, 3) := by decide +kernel
theorem dJ2_getChar_3b067_52 : decode cJ2_getChar_3b067 52 = .ok (.iand, 1) := by decide +kernel
theorem dJ2_getChar_3b067_53 : decode cJ2_getChar_3b067 53 = .ok (.getstatic 63, 3) := by decide +kernel
theorem dJ2_getChar_3b067_56 : decode cJ2_getChar_3b067 56 = .ok (.ishl, 1) := by decide +kernel
theorem dJ2_getChar_3b067_57 : decode cJ2_getChar_3b067 57 = .ok (.ior, 1) := by decide +kernel
theorem dJ2_getChar_3b067_58 : decode cJ2_getChar_3b067 58 = .ok (.i2c, 1) := by decide +kernel
theorem dJ2_getChar_3b067_59 : decode cJ2_getChar_3b067 59 = .ok (.ireturn, 1) := by decide +kernel
theorem dJ2_length_9d52b_0 : decode cJ2_length_9d52b 0 = .ok (.aload_n 0, 1) := by decide +kernel
theorem dJ2_length_9d52b_1 : decode cJ2_length_9d52b 1 = .ok (.arraylength, 1) := by decide +kernel
theorem dJ2_length_9d52b_2 : decode cJ2_length_9d52b 2 = .ok (.iconst 1, 1) := by decide +kernel
theorem dJ2_length_9d52b_3 : decode cJ2_length_9d52b 3 = .ok (.ishr, 1) := by decide +kernel
theorem dJ2_length_9d52b_4 : decode cJ2_length_9d52b 4 = .ok (.ireturn, 1) := by decide +kernel
set_option maxRecDepth 20000 in
theorem ggJ2_charAt_3b067_J2_checkIndex_2214a : GoodIn wsJ2_charAt_3b067 wsJ2_checkIndex_2214a := goodIn_r _ [4, 5, 6, 3, 7, 8, 9, 10, 11, 12, 13, 14, 15, 16] (by decide +kernel) (by decide +kernel)
set_option maxRecDepth 20000 in
theorem gJ2_charAt_3b067_J2_checkIndex_2214a : GoodIn wsJ2_charAt_3b067 (va_wsS RJ2 67 yJ2_checkIndex_2214a wsJ2_checkIndex_2214a) := goodIn_app (goodIn_of _ (by decide +kernel)) ggJ2_charAt_3b067_J2_checkIndex_2214a
set_option maxRecDepth 20000 in
theorem ggJ2_charAt_3b067_J2_getChar_3b067 : GoodIn wsJ2_charAt_3b067 wsJ2_getChar_3b067 := goodIn_r _ [19, 20, 21, 22, 5, 6, 3, 7] (by decide +kernel) (by decide +kernel)
set_option maxRecDepth 20000 in
theorem gJ2_charAt_3b067_J2_getChar_3b067 : GoodIn wsJ2_charAt_3b067 (va_wsS RJ2 71 yJ2_getChar_3b067 wsJ2_getChar_3b067) := goodIn_app (goodIn_of _ (by decide +kernel)) ggJ2_charAt_3b067_J2_getChar_3b067
theorem dJ2_charAt_3b067_0 : decode cJ2_charAt_3b067 0 = .ok (.iload_n 1, 1) := by decide +kernel
theorem dJ2_charAt_3b067_1 : decode cJ2_charAt_3b067 1 = .ok (.aload_n 0, 1) := by decide +kernel
theorem dJ2_charAt_3b067_2 : decode cJ2_charAt_3b067 2 = .ok (.invokestatic 67, 3) := by decide +kernel
theorem dJ2_charAt_3b067_5 : decode cJ2_charAt_3b067 5 = .ok (.aload_n 0, 1) := by decide +kernel
theorem dJ2_charAt_3b067_6 : decode cJ2_charAt_3b067 6 = .ok (.iload_n 1, 1) := by decide +kernel
theorem dJ2_charAt_3b067_7 : decode cJ2_charAt_3b067 7 = .ok (.invokestatic 71, 3) := by decide +kernel
theorem dJ2_charAt_3b067_10 : decode cJ2_charAt_3b067 10 = .ok (.ireturn, 1) := by decide +kernel
set_option maxRecDepth 20000 in
theorem ggJ2_checkIndex_2214a_J2_length_9d52b : GoodIn wsJ2_checkIndex_2214a wsJ2_length_9d52b := goodIn_r _ [4] (by decide +kernel) (by decide +kernel)
set_option maxRecDepth 20000 in
theorem gJ2_checkIndex_2214a_J2_length_9d52b : GoodIn wsJ2_checkIndex_2214a (va_wsS RJ2 48 yJ2_length_9d52b wsJ2_length_9d52b) := goodIn_app (goodIn_of _ (by decide +kernel)) ggJ2_checkIndex_2214a_J2_length_9d52b
set_option maxRecDepth 20000 in
theorem ggJ2_checkIndex_2214a_J0_checkIndex_df160 : GoodIn wsJ2_checkIndex_2214a wsJ0_checkIndex_df160 := goodIn_r _ [8, 9, 10, 11, 12, 13] (by decide +kernel) (by decide +kernel)
set_option maxRecDepth 20000 in
theorem gJ2_checkIndex_2214a_J0_checkIndex_df160 : GoodIn wsJ2_checkIndex_2214a (va_wsS RJ2 414 yJ0_checkIndex_df160 wsJ0_checkIndex_df160) := goodIn_app (goodIn_of _ (by decide +kernel)) ggJ2_checkIndex_2214a_J0_checkIndex_df160
theorem dJ2_checkIndex_2214a_0 : decode cJ2_checkIndex_2214a 0 = .ok (.iload_n 0, 1) := by decide +kernel
theorem dJ2_checkIndex_2214a_1 : decode cJ2_checkIndex_2214a 1 = .ok (.aload_n 1, 1) := by decide +kernel
theorem dJ2_checkIndex_2214a_2 : decode cJ2_checkIndex_2214a 2 = .ok (.invokestatic 48, 3) := by decide +kernel
theorem dJ2_checkIndex_2214a_5 : decode cJ2_checkIndex_2214a 5 = .ok (.invokestatic 414, 3) := by decide +kernel
theorem dJ2_checkIndex_2214a_8 : decode cJ2_checkIndex_2214a 8 = .ok (.return_, 1) := by decide +kernel
theorem dJ3_checkIndex_8e157_0 : decode cJ3_checkIndex_8e157 0 = .ok (.iload_n 0, 1) := by decide +kernel
theorem dJ3_checkIndex_8e157_1 : decode cJ3_checkIndex_8e157 1 = .ok (.ifCond .lt 8, 3) := by decide +kernel
theorem dJ3_checkIndex_8e157_4 : decode cJ3_checkIndex_8e157 4 = .ok (.iload_n 0, 1) := by decide +kernel
theorem dJ3_checkIndex_8e157_5 : decode cJ3_checkIndex_8e157 5 = .ok (.iload_n 1, 1) := by decide +kernel
theorem dJ3_checkIndex_8e157_6 : decode cJ3_checkIndex_8e157 6 = .ok (.if_icmp .lt 10, 3) := by decide +kernel
theorem dJ3_checkIndex_8e157_9 : decode cJ3_checkIndex_8e157 9 = .ok (.aload_n 2, 1) := by decide +kernel
theorem dJ3_checkIndex_8e157_10 : decode cJ3_checkIndex_8e157 10 = .ok (.iload_n 0, 1) := by decide +kernel
theorem dJ3_checkIndex_8e157_11 : decode cJ3_checkIndex_8e157 11 = .ok (.iload_n 1, 1) := by decide +kernel
theorem dJ3_checkIndex_8e157_12 : decode cJ3_checkIndex_8e157 12 = .ok (.invokestatic 95, 3) := by decide +kernel
theorem dJ3_checkIndex_8e157_15 : decode cJ3_checkIndex_8e157 15 = .ok (.athrow, 1) := by decide +kernel
theorem dJ3_checkIndex_8e157_16 : decode cJ3_checkIndex_8e157 16 = .ok (.iload_n 0, 1) := by decide +kernel
theorem dJ3_checkIndex_8e157_17 : decode cJ3_checkIndex_8e157 17 = .ok (.ireturn, 1) := by decide +kernel
