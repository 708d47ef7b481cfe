set_option maxRecDepth 20000 in
theorem ggX5_passes_X5_reads : GoodIn wsX5_passes wsX5_reads := goodIn_r _ [7, 8, 9, 10, 11, 2, 12, 13, 14, 15, 6, 16, 17, 18, 19, 20, 21, 22, 23, 24, 25, 26, 27, 28, 29, 30, 31, 32, 33, 34, 35, 36, 37, 38, 39, 40, 41, 42, 43] (by decide +kernel) (by decide +kernel)
set_option maxRecDepth 20000 in
theorem gX5_passes_X5_reads : GoodIn wsX5_passes (wsV RX5 170 RX5 yX5_reads wsX5_reads) := goodIn_app (goodIn_of _ (by decide +kernel)) ggX5_passes_X5_reads
theorem dX5_passes_0 : decode cX5_passes 0 = .ok (.aload_n 0, 1) := by decide +kernel
theorem dX5_passes_1 : decode cX5_passes 1 = .ok (.getfield 166, 3) := by decide +kernel
theorem dX5_passes_4 : decode cX5_passes 4 = .ok (.ifCond .ne 11, 3) := by decide +kernel
theorem dX5_passes_7 : decode cX5_passes 7 = .ok (.aload_n 0, 1) := by decide +kernel
theorem dX5_passes_8 : decode cX5_passes 8 = .ok (.getfield 160, 3) := by decide +kernel
theorem dX5_passes_11 : decode cX5_passes 11 = .ok (.iload_n 1, 1) := by decide +kernel
theorem dX5_passes_12 : decode cX5_passes 12 = .ok (.if_icmp .eq 5, 3) := by decide +kernel
theorem dX5_passes_15 : decode cX5_passes 15 = .ok (.iconst 0, 1) := by decide +kernel
theorem dX5_passes_16 : decode cX5_passes 16 = .ok (.ireturn, 1) := by decide +kernel
theorem dX5_passes_17 : decode cX5_passes 17 = .ok (.aload_n 0, 1) := by decide +kernel
theorem dX5_passes_18 : decode cX5_passes 18 = .ok (.invokevirtual 170, 3) := by decide +kernel
theorem dX5_passes_21 : decode cX5_passes 21 = .ok (.iconst 1, 1) := by decide +kernel
theorem dX5_passes_22 : decode cX5_passes 22 = .ok (.ireturn, 1) := by decide +kernel
set_option maxRecDepth 20000 in
theorem ggX5_number_X5_in : GoodIn wsX5_number wsX5_in := goodIn_r _ [7] (by decide +kernel) (by decide +kernel)
set_option maxRecDepth 20000 in
theorem gX5_number_X5_in : GoodIn wsX5_number (va_wsS RX5 41 yX5_in wsX5_in) := goodIn_app (goodIn_of _ (by decide +kernel)) ggX5_number_X5_in
set_option maxRecDepth 20000 in
theorem ggX5_number_X5_reads : GoodIn wsX5_number wsX5_reads := goodIn_r _ [11, 12, 13, 1, 14, 3, 15, 16, 17, 18, 6, 19, 4, 5, 7, 20, 21, 22, 23, 24, 25, 26, 27, 28, 29, 30, 31, 32, 33, 34, 35, 36, 37, 38, 39, 40, 41, 42, 43] (by decide +kernel) (by decide +kernel)
set_option maxRecDepth 20000 in
theorem gX5_number_X5_reads : GoodIn wsX5_number (wsV RX5 170 RX5 yX5_reads wsX5_reads) := goodIn_app (goodIn_of _ (by decide +kernel)) ggX5_number_X5_reads
theorem dX5_number_0 : decode cX5_number 0 = .ok (.aload_n 0, 1) := by decide +kernel
theorem dX5_number_1 : decode cX5_number 1 = .ok (.getfield 157, 3) := by decide +kernel
theorem dX5_number_4 : decode cX5_number 4 = .ok (.istore_n 3, 1) := by decide +kernel
theorem dX5_number_5 : decode cX5_number 5 = .ok (.aload_n 0, 1) := by decide +kernel
theorem dX5_number_6 : decode cX5_number 6 = .ok (.aload_n 0, 1) := by decide +kernel
theorem dX5_number_7 : decode cX5_number 7 = .ok (.getfield 166, 3) := by decide +kernel
theorem dX5_number_10 : decode cX5_number 10 = .ok (.ifCond .ne 22, 3) := by decide +kernel
theorem dX5_number_13 : decode cX5_number 13 = .ok (.aload_n 0, 1) := by decide +kernel
theorem dX5_number_14 : decode cX5_number 14 = .ok (.getfield 160, 3) := by decide +kernel
theorem dX5_number_17 : decode cX5_number 17 = .ok (.bipush 20, 2) := by decide +kernel
theorem dX5_number_19 : decode cX5_number 19 = .ok (.if_icmp .ne 13, 3) := by decide +kernel
theorem dX5_number_22 : decode cX5_number 22 = .ok (.iload_n 3, 1) := by decide +kernel
theorem dX5_number_23 : decode cX5_number 23 = .ok (.i2l, 1) := by decide +kernel
theorem dX5_number_24 : decode cX5_number 24 = .ok (.iload_n 1, 1) := by decide +kernel
theorem dX5_number_25 : decode cX5_number 25 = .ok (.iload_n 2, 1) := by decide +kernel
theorem dX5_number_26 : decode cX5_number 26 = .ok (.invokestatic 41, 3) := by decide +kernel
theorem dX5_number_29 : decode cX5_number 29 = .ok (.ifCond .ne 7, 3) := by decide +kernel
theorem dX5_number_32 : decode cX5_number 32 = .ok (.iconst 1, 1) := by decide +kernel
theorem dX5_number_33 : decode cX5_number 33 = .ok (.goto 4, 3) := by decide +kernel
theorem dX5_number_36 : decode cX5_number 36 = .ok (.iconst 0, 1) := by decide +kernel
theorem dX5_number_37 : decode cX5_number 37 = .ok (.putfield 166, 3) := by decide +kernel
theorem dX5_number_40 : decode cX5_number 40 = .ok (.aload_n 0, 1) := by decide +kernel
theorem dX5_number_41 : decode cX5_number 41 = .ok (.getfield 166, 3) := by decide +kernel
theorem dX5_number_44 : decode cX5_number 44 = .ok (.ifCond .ne 7, 3) := by decide +kernel
theorem dX5_number_47 : decode cX5_number 47 = .ok (.aload_n 0, 1) := by decide +kernel
theorem dX5_number_48 : decode cX5_number 48 = .ok (.invokevirtual 170, 3) := by decide +kernel
theorem dX5_number_51 : decode cX5_number 51 = .ok (.iload_n 3, 1) := by decide +kernel
theorem dX5_number_52 : decode cX5_number 52 = .ok (.ireturn, 1) := by decide +kernel
set_option maxRecDepth 20000 in
theorem ggX5_perhaps_X5_passes : GoodIn wsX5_perhaps wsX5_passes := goodIn_r _ [5, 6, 7, 8, 9, 10, 4, 11, 12, 13, 14, 15, 16, 17, 18, 19, 20, 21, 22, 23, 24, 25, 26, 27, 28, 29, 30, 31, 32, 37, 38, 39, 40, 41, 42, 43, 44, 45, 46, 47, 48, 49, 50, 51] (by decide +kernel) (by decide +kernel)
set_option maxRecDepth 20000 in
theorem gX5_perhaps_X5_passes : GoodIn wsX5_perhaps (wsV RX5 173 RX5 yX5_passes wsX5_passes) := goodIn_app (goodIn_of _ (by decide +kernel)) ggX5_perhaps_X5_passes
set_option maxRecDepth 20000 in
theorem ggX5_perhaps_X5_number : GoodIn wsX5_perhaps wsX5_number := goodIn_r _ [36, 14, 6, 7, 21, 22, 4, 23, 8, 9, 10, 11, 12, 13, 15, 16, 17, 18, 19, 20, 24, 25, 26, 27, 28, 29, 30, 31, 32, 37, 38, 39, 40, 41, 42, 43, 44, 45, 46, 47, 48, 49, 50, 51] (by decide +kernel) (by decide +kernel)
set_option maxRecDepth 20000 in
theorem gX5_perhaps_X5_number : GoodIn wsX5_perhaps (wsV RX5 176 RX5 yX5_number wsX5_number) := goodIn_app (goodIn_of _ (by decide +kernel)) ggX5_perhaps_X5_number
theorem dX5_perhaps_0 : decode cX5_perhaps 0 = .ok (.aload_n 0, 1) := by decide +kernel
theorem dX5_perhaps_1 : decode cX5_perhaps 1 = .ok (.iload_n 1, 1) := by decide +kernel
theorem dX5_perhaps_2 : decode cX5_perhaps 2 = .ok (.invokevirtual 173, 3) := by decide +kernel
theorem dX5_perhaps_5 : decode cX5_perhaps 5 = .ok (.ifCond .eq 12, 3) := by decide +kernel
theorem dX5_perhaps_8 : decode cX5_perhaps 8 = .ok (.aload_n 0, 1) := by decide +kernel
theorem dX5_perhaps_9 : decode cX5_perhaps 9 = .ok (.iload_n 2, 1) := by decide +kernel
theorem dX5_perhaps_10 : decode cX5_perhaps 10 = .ok (.iload_n 3, 1) := by decide +kernel
theorem dX5_perhaps_11 : decode cX5_perhaps 11 = .ok (.invokevirtual 176, 3) := by decide +kernel
theorem dX5_perhaps_14 : decode cX5_perhaps 14 = .ok (.goto 5, 3) := by decide +kernel
theorem dX5_perhaps_17 : decode cX5_perhaps 17 = .ok (.iload 4, 2) := by decide +kernel
theorem dX5_perhaps_19 : decode cX5_perhaps 19 = .ok (.ireturn, 1) := by decide +kernel
set_option maxRecDepth 20000 in
theorem ggX5_personItem_X5_reads : GoodIn wsX5_personItem wsX5_reads := goodIn_r _ [8, 9, 10, 11, 12, 1, 13, 14, 15, 16, 7, 17, 18, 19, 20, 21, 22, 23, 24, 25, 26, 27, 28, 29, 50, 51, 52, 53, 54, 55, 56, 57, 58, 59, 60, 61, 62, 63, 64] (by decide +kernel) (by decide +kernel)
set_option maxRecDepth 20000 in
theorem gX5_personItem_X5_reads : GoodIn wsX5_personItem (wsV RX5 170 RX5 yX5_reads wsX5_reads) := goodIn_app (goodIn_of _ (by decide +kernel)) ggX5_personItem_X5_reads
set_option maxRecDepth 20000 in
theorem ggX5_personItem_X5_number : GoodIn wsX5_personItem wsX5_number := goodIn_r _ [33, 11, 3, 1, 18, 19, 7, 20, 4, 5, 6, 8, 9, 10, 12, 13, 14, 15, 16, 17, 21, 22, 23, 24, 25, 26, 27, 28, 29, 50, 51, 52, 53, 54, 55, 56, 57, 58, 59, 60, 61, 62, 63, 64] (by decide +kernel) (by decide +kernel)
set_option maxRecDepth 20000 in
theorem gX5_personItem_X5_number : GoodIn wsX5_personItem (wsV RX5 176 RX5 yX5_number wsX5_number) := goodIn_app (goodIn_of _ (by decide +kernel)) ggX5_personItem_X5_number
set_option maxRecDepth 20000 in
theorem ggX5_personItem_X5_perhaps : GoodIn wsX5_personItem wsX5_perhaps := goodIn_r _ [37, 38, 39, 40, 7, 41, 3, 1, 4, 5, 6, 8, 9, 10, 11, 12, 13, 14, 15, 16, 17, 18, 19, 20, 21, 22, 23, 24, 25, 26, 27, 28, 29, 30, 31, 32, 33, 50, 51, 52, 53, 54, 55, 56, 57, 58, 59, 60, 61, 62, 63, 64] (by decide +kernel) (by decide +kernel)
set_option maxRecDepth 20000 in
theorem gX5_personItem_X5_perhaps : GoodIn wsX5_personItem (wsV RX5 179 RX5 yX5_perhaps wsX5_perhaps) := goodIn_app (goodIn_of _ (by decide +kernel)) ggX5_personItem_X5_perhaps
set_option maxRecDepth 20000 in
theorem ggX5_personItem_X5_passes : GoodIn wsX5_personItem wsX5_passes := goodIn_r _ [41, 3, 1, 4, 5, 6, 7, 8, 9, 10, 11, 12, 13, 14, 15, 16, 17, 18, 19, 20, 21, 22, 23, 24, 25, 26, 27, 28, 29, 50, 51, 52, 53, 54, 55, 56, 57, 58, 59, 60, 61, 62, 63, 64] (by decide +kernel) (by decide +kernel)
set_option maxRecDepth 20000 in
theorem gX5_personItem_X5_passes : GoodIn wsX5_personItem (wsV RX5 173 RX5 yX5_passes wsX5_passes) := goodIn_app (goodIn_of _ (by decide +kernel)) ggX5_personItem_X5_passes
set_option maxRecDepth 20000 in
theorem ggX5_personItem_X5_comesAs : GoodIn wsX5_personItem wsX5_comesAs := goodIn_r _ [45, 2, 46, 47, 48, 7, 49, 50, 51, 52, 53, 54, 55, 56, 57, 58, 59, 60, 61, 62, 63, 64] (by decide +kernel) (by decide +kernel)
set_option maxRecDepth 20000 in
theorem gX5_personItem_X5_comesAs : GoodIn wsX5_personItem (wsV RX5 71 RX5 yX5_comesAs wsX5_comesAs) := goodIn_app (goodIn_of _ (by decide +kernel)) ggX5_personItem_X5_comesAs
theorem dX5_personItem_0 : decode cX5_personItem 0 = .ok (.aload_n 0, 1) := by decide +kernel
theorem dX5_personItem_1 : decode cX5_personItem 1 = .ok (.getfield 160, 3) := by decide +kernel
theorem dX5_personItem_4 : decode cX5_personItem 4 = .ok (.istore_n 1, 1) := by decide +kernel
theorem dX5_personItem_5 : decode cX5_personItem 5 = .ok (.aload_n 0, 1) := by decide +kernel
theorem dX5_personItem_6 : decode cX5_personItem 6 = .ok (.aload_n 0, 1) := by decide +kernel
theorem dX5_personItem_7 : decode cX5_personItem 7 = .ok (.getfield 9, 3) := by decide +kernel
theorem dX5_personItem_10 : decode cX5_personItem 10 = .ok (.iconst 4, 1) := by decide +kernel
theorem dX5_personItem_11 : decode cX5_personItem 11 = .ok (.iaload, 1) := by decide +kernel
theorem dX5_personItem_12 : decode cX5_personItem 12 = .ok (.bipush 8, 2) := by decide +kernel
theorem dX5_personItem_14 : decode cX5_personItem 14 = .ok (.if_icmp .ne 7, 3) := by decide +kernel
theorem dX5_personItem_17 : decode cX5_personItem 17 = .ok (.iconst 1, 1) := by decide +kernel
theorem dX5_personItem_18 : decode cX5_personItem 18 = .ok (.goto 4, 3) := by decide +kernel
theorem dX5_personItem_21 : decode cX5_personItem 21 = .ok (.iconst 0, 1) := by decide +kernel
theorem dX5_personItem_22 : decode cX5_personItem 22 = .ok (.putfield 166, 3) := by decide +kernel
theorem dX5_personItem_25 : decode cX5_personItem 25 = .ok (.aload_n 0, 1) := by decide +kernel
theorem dX5_personItem_26 : decode cX5_personItem 26 = .ok (.getfield 166, 3) := by decide +kernel
theorem dX5_personItem_29 : decode cX5_personItem 29 = .ok (.ifCond .eq 4, 3) := by decide +kernel
theorem dX5_personItem_32 : decode cX5_personItem 32 = .ok (.return_, 1) := by decide +kernel
theorem dX5_personItem_33 : decode cX5_personItem 33 = .ok (.aload_n 0, 1) := by decide +kernel
theorem dX5_personItem_34 : decode cX5_personItem 34 = .ok (.invokevirtual 170, 3) := by decide +kernel
theorem dX5_personItem_37 : decode cX5_personItem 37 = .ok (.aload_n 0, 1) := by decide +kernel
theorem dX5_personItem_38 : decode cX5_personItem 38 = .ok (.iconst 0, 1) := by decide +kernel
theorem dX5_personItem_39 : decode cX5_personItem 39 = .ok (.sipush 999, 3) := by decide +kernel
theorem dX5_personItem_42 : decode cX5_personItem 42 = .ok (.invokevirtual 176, 3) := by decide +kernel
theorem dX5_personItem_45 : decode cX5_personItem 45 = .ok (.istore_n 2, 1) := by decide +kernel
theorem dX5_personItem_46 : decode cX5_personItem 46 = .ok (.aload_n 0, 1) := by decide +kernel
theorem dX5_personItem_47 : decode cX5_personItem 47 = .ok (.bipush 6, 2) := by decide +kernel
theorem dX5_personItem_49 : decode cX5_personItem 49 = .ok (.iconst 0, 1) := by decide +kernel
theorem dX5_personItem_50 : decode cX5_personItem 50 = .ok (.bipush 9, 2) := by decide +kernel
theorem dX5_personItem_52 : decode cX5_personItem 52 = .ok (.iconst 0, 1) := by decide +kernel
theorem dX5_personItem_53 : decode cX5_personItem 53 = .ok (.invokevirtual 179, 3) := by decide +kernel
theorem dX5_personItem_56 : decode cX5_personItem 56 = .ok (.istore_n 3, 1) := by decide +kernel
theorem dX5_personItem_57 : decode cX5_personItem 57 = .ok (.aload_n 0, 1) := by decide +kernel
theorem dX5_personItem_58 : decode cX5_personItem 58 = .ok (.bipush 7, 2) := by decide +kernel
theorem dX5_personItem_60 : decode cX5_personItem 60 = .ok (.invokevirtual 173, 3) := by decide +kernel
theorem dX5_personItem_63 : decode cX5_personItem 63 = .ok (.ifCond .eq 7, 3) := by decide +kernel
theorem dX5_personItem_66 : decode cX5_personItem 66 = .ok (.iconst 0, 1) := by decide +kernel
theorem dX5_personItem_67 : decode cX5_personItem 67 = .ok (.goto 4, 3) := by decide +kernel
theorem dX5_personItem_70 : decode cX5_personItem 70 = .ok (.iconst 1, 1) := by decide +kernel
theorem dX5_personItem_71 : decode cX5_personItem 71 = .ok (.istore 4, 2) := by decide +kernel
theorem dX5_personItem_73 : decode cX5_personItem 73 = .ok (.aload_n 0, 1) := by decide +kernel
theorem dX5_personItem_74 : decode cX5_personItem 74 = .ok (.getfield 166, 3) := by decide +kernel
theorem dX5_personItem_77 : decode cX5_personItem 77 = .ok (.ifCond .ne 14, 3) := by decide +kernel
theorem dX5_personItem_80 : decode cX5_personItem 80 = .ok (.aload_n 0, 1) := by decide +kernel
theorem dX5_personItem_81 : decode cX5_personItem 81 = .ok (.iload_n 1, 1) := by decide +kernel
theorem dX5_personItem_82 : decode cX5_personItem 82 = .ok (.iload_n 2, 1) := by decide +kernel
theorem dX5_personItem_83 : decode cX5_personItem 83 = .ok (.iload_n 3, 1) := by decide +kernel
theorem dX5_personItem_84 : decode cX5_personItem 84 = .ok (.iload 4, 2) := by decide +kernel
theorem dX5_personItem_86 : decode cX5_personItem 86 = .ok (.invokevirtual 71, 3) := by decide +kernel
theorem dX5_personItem_89 : decode cX5_personItem 89 = .ok (.istore 5, 2) := by decide +kernel
theorem dX5_personItem_91 : decode cX5_personItem 91 = .ok (.return_, 1) := by decide +kernel
set_option maxRecDepth 20000 in
theorem ggX5_item_X5_personItem : GoodIn wsX5_item wsX5_personItem := goodIn_r _ [8, 1, 2, 3, 9, 10, 11, 7, 12, 13, 14, 15, 16, 17, 18, 19, 20, 21, 22, 23, 24, 25, 26, 27, 28, 29, 30, 31, 32, 33, 34, 35, 36, 37, 38, 39, 40, 41, 42, 43, 44, 45, 46, 47, 48, 49, 50, 51, 52, 53, 54, 55, 56, 57, 58, 59, 60, 61, 62, 63, 64, 65, 66, 67, 68] (by decide +kernel) (by decide +kernel)
set_option maxRecDepth 20000 in
theorem gX5_item_X5_personItem : GoodIn wsX5_item (wsV RX5 182 RX5 yX5_personItem wsX5_personItem) := goodIn_app (goodIn_of _ (by decide +kernel)) ggX5_item_X5_personItem
set_option maxRecDepth 20000 in
theorem ggX5_item_X5_passes : GoodIn wsX5_item wsX5_passes := goodIn_r _ [45, 3, 1, 9, 10, 11, 7, 12, 13, 14, 15, 16, 17, 18, 19, 20, 21, 22, 23, 24, 25, 26, 27, 28, 29, 30, 31, 32, 33, 54, 55, 56, 57, 58, 59, 60, 61, 62, 63, 64, 65, 66, 67, 68] (by decide +kernel) (by decide +kernel)
set_option maxRecDepth 20000 in
theorem gX5_item_X5_passes : GoodIn wsX5_item (wsV RX5 173 RX5 yX5_passes wsX5_passes) := goodIn_app (goodIn_of _ (by decide +kernel)) ggX5_item_X5_passes
set_option maxRecDepth 20000 in
theorem ggX5_item_X5_number : GoodIn wsX5_item wsX5_number := goodIn_r _ [37, 15, 3, 1, 22, 23, 7, 24, 9, 10, 11, 12, 13, 14, 16, 17, 18, 19, 20, 21, 25, 26, 27, 28, 29, 30, 31, 32, 33, 54, 55, 56, 57, 58, 59, 60, 61, 62, 63, 64, 65, 66, 67, 68] (by decide +kernel) (by decide +kernel)
set_option maxRecDepth 20000 in
theorem gX5_item_X5_number : GoodIn wsX5_item (wsV RX5 176 RX5 yX5_number wsX5_number) := goodIn_app (goodIn_of _ (by decide +kernel)) ggX5_item_X5_number
theorem dX5_item_0 : decode cX5_item 0 = .ok (.aload_n 0, 1) := by decide +kernel
theorem dX5_item_1 : decode cX5_item 1 = .ok (.getfield 160, 3) := by decide +kernel
theorem dX5_item_4 : decode cX5_item 4 = .ok (.iconst 5, 1) := by decide +kernel
theorem dX5_item_5 : decode cX5_item 5 = .ok (.if_icmp .gt 10, 3) := by decide +kernel
theorem dX5_item_8 : decode cX5_item 8 = .ok (.aload_n 0, 1) := by decide +kernel
theorem dX5_item_9 : decode cX5_item 9 = .ok (.invokevirtual 182, 3) := by decide +kernel
theorem dX5_item_12 : decode cX5_item 12 = .ok (.goto 58, 3) := by decide +kernel
theorem dX5_item_15 : decode cX5_item 15 = .ok (.aload_n 0, 1) := by decide +kernel
theorem dX5_item_16 : decode cX5_item 16 = .ok (.bipush 8, 2) := by decide +kernel
theorem dX5_item_18 : decode cX5_item 18 = .ok (.invokevirtual 173, 3) := by decide +kernel
theorem dX5_item_21 : decode cX5_item 21 = .ok (.ifCond .eq 19, 3) := by decide +kernel
theorem dX5_item_24 : decode cX5_item 24 = .ok (.aload_n 0, 1) := by decide +kernel
theorem dX5_item_25 : decode cX5_item 25 = .ok (.getfield 9, 3) := by decide +kernel
theorem dX5_item_28 : decode cX5_item 28 = .ok (.iconst 1, 1) := by decide +kernel
theorem dX5_item_29 : decode cX5_item 29 = .ok (.aload_n 0, 1) := by decide +kernel
theorem dX5_item_30 : decode cX5_item 30 = .ok (.iconst 0, 1) := by decide +kernel
theorem dX5_item_31 : decode cX5_item 31 = .ok (.bipush 99, 2) := by decide +kernel
theorem dX5_item_33 : decode cX5_item 33 = .ok (.invokevirtual 176, 3) := by decide +kernel
theorem dX5_item_36 : decode cX5_item 36 = .ok (.iastore, 1) := by decide +kernel
theorem dX5_item_37 : decode cX5_item 37 = .ok (.goto 33, 3) := by decide +kernel
theorem dX5_item_40 : decode cX5_item 40 = .ok (.aload_n 0, 1) := by decide +kernel
theorem dX5_item_41 : decode cX5_item 41 = .ok (.bipush 9, 2) := by decide +kernel
theorem dX5_item_43 : decode cX5_item 43 = .ok (.invokevirtual 173, 3) := by decide +kernel
theorem dX5_item_46 : decode cX5_item 46 = .ok (.ifCond .eq 19, 3) := by decide +kernel
theorem dX5_item_49 : decode cX5_item 49 = .ok (.aload_n 0, 1) := by decide +kernel
theorem dX5_item_50 : decode cX5_item 50 = .ok (.getfield 9, 3) := by decide +kernel
theorem dX5_item_53 : decode cX5_item 53 = .ok (.iconst 2, 1) := by decide +kernel
theorem dX5_item_54 : decode cX5_item 54 = .ok (.aload_n 0, 1) := by decide +kernel
theorem dX5_item_55 : decode cX5_item 55 = .ok (.iconst 0, 1) := by decide +kernel
theorem dX5_item_56 : decode cX5_item 56 = .ok (.bipush 60, 2) := by decide +kernel
theorem dX5_item_58 : decode cX5_item 58 = .ok (.invokevirtual 176, 3) := by decide +kernel
theorem dX5_item_61 : decode cX5_item 61 = .ok (.iastore, 1) := by decide +kernel
theorem dX5_item_62 : decode cX5_item 62 = .ok (.goto 8, 3) := by decide +kernel
theorem dX5_item_65 : decode cX5_item 65 = .ok (.aload_n 0, 1) := by decide +kernel
theorem dX5_item_66 : decode cX5_item 66 = .ok (.iconst 1, 1) := by decide +kernel
theorem dX5_item_67 : decode cX5_item 67 = .ok (.putfield 166, 3) := by decide +kernel
theorem dX5_item_70 : decode cX5_item 70 = .ok (.return_, 1) := by decide +kernel
set_option maxRecDepth 20000 in
theorem ggX5_morning_X5_thinks : GoodIn wsX5_morning wsX5_thinks := goodIn_r _ [10, 11, 12, 13, 14, 9, 15, 70, 71, 72, 73, 74, 75, 76, 77, 78, 79, 80, 81, 82, 83, 84] (by decide +kernel) (by decide +kernel)
set_option maxRecDepth 20000 in
theorem gX5_morning_X5_thinks : GoodIn wsX5_morning (wsV RX5 119 RX5 yX5_thinks wsX5_thinks) := goodIn_app (goodIn_of _ (by decide +kernel)) ggX5_morning_X5_thinks
set_option maxRecDepth 20000 in
theorem ggX5_morning_X5_reads : GoodIn wsX5_morning wsX5_reads := goodIn_r _ [19, 1, 5, 20, 4, 3, 21, 22, 23, 24, 9, 25, 26, 27, 28, 29, 30, 31, 32, 33, 34, 35, 36, 37, 70, 71, 72, 73, 74, 75, 76, 77, 78, 79, 80, 81, 82, 83, 84] (by decide +kernel) (by decide +kernel)
set_option maxRecDepth 20000 in
theorem gX5_morning_X5_reads : GoodIn wsX5_morning (wsV RX5 170 RX5 yX5_reads wsX5_reads) := goodIn_app (goodIn_of _ (by decide +kernel)) ggX5_morning_X5_reads
set_option maxRecDepth 20000 in
theorem ggX5_morning_X5_item : GoodIn wsX5_morning wsX5_item := goodIn_r _ [41, 3, 11, 2, 42, 43, 44, 9, 45, 16, 17, 18, 19, 1, 5, 20, 4, 21, 22, 23, 24, 25, 26, 27, 28, 29, 30, 31, 32, 33, 34, 35, 36, 37, 46, 47, 48, 49, 50, 51, 52, 53, 54, 55, 56, 57, 58, 59, 60, 61, 62, 63, 64, 65, 70, 71, 72, 73, 74, 75, 76, 77, 78, 79, 80, 81, 82, 83, 84] (by decide +kernel) (by decide +kernel)
set_option maxRecDepth 20000 in
theorem gX5_morning_X5_item : GoodIn wsX5_morning (wsV RX5 185 RX5 yX5_item wsX5_item) := goodIn_app (goodIn_of _ (by decide +kernel)) ggX5_morning_X5_item
set_option maxRecDepth 20000 in
theorem ggX5_morning_X5_passes : GoodIn wsX5_morning wsX5_passes := goodIn_r _ [57, 2, 3, 16, 17, 18, 9, 19, 1, 5, 20, 4, 21, 22, 23, 24, 25, 26, 27, 28, 29, 30, 31, 32, 33, 34, 35, 36, 37, 70, 71, 72, 73, 74, 75, 76, 77, 78, 79, 80, 81, 82, 83, 84] (by decide +kernel) (by decide +kernel)
set_option maxRecDepth 20000 in
theorem gX5_morning_X5_passes : GoodIn wsX5_morning (wsV RX5 173 RX5 yX5_passes wsX5_passes) := goodIn_app (goodIn_of _ (by decide +kernel)) ggX5_morning_X5_passes
set_option maxRecDepth 20000 in
theorem ggX5_morning_X5_putsBack : GoodIn wsX5_morning wsX5_putsBack := goodIn_r _ [69, 12, 11, 13, 14, 9, 15, 70, 71, 72, 73, 74, 75, 76, 77, 78, 79, 80, 81, 82, 83, 84] (by decide +kernel) (by decide +kernel)
set_option maxRecDepth 20000 in
theorem gX5_morning_X5_putsBack : GoodIn wsX5_morning (wsV RX5 122 RX5 yX5_putsBack wsX5_putsBack) := goodIn_app (goodIn_of _ (by decide +kernel)) ggX5_morning_X5_putsBack
theorem dX5_morning_0 : decode cX5_morning 0 = .ok (.aload_n 0, 1) := by decide +kernel
theorem dX5_morning_1 : decode cX5_morning 1 = .ok (.invokevirtual 119, 3) := by decide +kernel
theorem dX5_morning_4 : decode cX5_morning 4 = .ok (.aload_n 0, 1) := by decide +kernel
theorem dX5_morning_5 : decode cX5_morning 5 = .ok (.iconst 0, 1) := by decide +kernel
theorem dX5_morning_6 : decode cX5_morning 6 = .ok (.putfield 147, 3) := by decide +kernel
theorem dX5_morning_9 : decode cX5_morning 9 = .ok (.aload_n 0, 1) := by decide +kernel
theorem dX5_morning_10 : decode cX5_morning 10 = .ok (.iconst 0, 1) := by decide +kernel
theorem dX5_morning_11 : decode cX5_morning 11 = .ok (.putfield 166, 3) := by decide +kernel
theorem dX5_morning_14 : decode cX5_morning 14 = .ok (.aload_n 0, 1) := by decide +kernel
theorem dX5_morning_15 : decode cX5_morning 15 = .ok (.invokevirtual 170, 3) := by decide +kernel
theorem dX5_morning_18 : decode cX5_morning 18 = .ok (.aload_n 0, 1) := by decide +kernel
theorem dX5_morning_19 : decode cX5_morning 19 = .ok (.invokevirtual 185, 3) := by decide +kernel
theorem dX5_morning_22 : decode cX5_morning 22 = .ok (.iconst 1, 1) := by decide +kernel
theorem dX5_morning_23 : decode cX5_morning 23 = .ok (.istore_n 1, 1) := by decide +kernel
theorem dX5_morning_24 : decode cX5_morning 24 = .ok (.aload_n 0, 1) := by decide +kernel
theorem dX5_morning_25 : decode cX5_morning 25 = .ok (.bipush 21, 2) := by decide +kernel
theorem dX5_morning_27 : decode cX5_morning 27 = .ok (.invokevirtual 173, 3) := by decide +kernel
theorem dX5_morning_30 : decode cX5_morning 30 = .ok (.ifCond .eq 13, 3) := by decide +kernel
theorem dX5_morning_33 : decode cX5_morning 33 = .ok (.aload_n 0, 1) := by decide +kernel
theorem dX5_morning_34 : decode cX5_morning 34 = .ok (.invokevirtual 185, 3) := by decide +kernel
theorem dX5_morning_37 : decode cX5_morning 37 = .ok (.iinc 1 1, 3) := by decide +kernel
theorem dX5_morning_40 : decode cX5_morning 40 = .ok (.goto (-16), 3) := by decide +kernel
theorem dX5_morning_43 : decode cX5_morning 43 = .ok (.aload_n 0, 1) := by decide +kernel
theorem dX5_morning_44 : decode cX5_morning 44 = .ok (.aload_n 0, 1) := by decide +kernel
theorem dX5_morning_45 : decode cX5_morning 45 = .ok (.getfield 166, 3) := by decide +kernel
theorem dX5_morning_48 : decode cX5_morning 48 = .ok (.ifCond .ne 12, 3) := by decide +kernel
theorem dX5_morning_51 : decode cX5_morning 51 = .ok (.aload_n 0, 1) := by decide +kernel
theorem dX5_morning_52 : decode cX5_morning 52 = .ok (.getfield 160, 3) := by decide +kernel
theorem dX5_morning_55 : decode cX5_morning 55 = .ok (.bipush 22, 2) := by decide +kernel
theorem dX5_morning_57 : decode cX5_morning 57 = .ok (.if_icmp .eq 7, 3) := by decide +kernel
theorem dX5_morning_60 : decode cX5_morning 60 = .ok (.iconst 1, 1) := by decide +kernel
theorem dX5_morning_61 : decode cX5_morning 61 = .ok (.goto 4, 3) := by decide +kernel
theorem dX5_morning_64 : decode cX5_morning 64 = .ok (.iconst 0, 1) := by decide +kernel
theorem dX5_morning_65 : decode cX5_morning 65 = .ok (.putfield 166, 3) := by decide +kernel
theorem dX5_morning_68 : decode cX5_morning 68 = .ok (.aload_n 0, 1) := by decide +kernel
theorem dX5_morning_69 : decode cX5_morning 69 = .ok (.iconst 0, 1) := by decide +kernel
theorem dX5_morning_70 : decode cX5_morning 70 = .ok (.putfield 137, 3) := by decide +kernel
theorem dX5_morning_73 : decode cX5_morning 73 = .ok (.aload_n 0, 1) := by decide +kernel
theorem dX5_morning_74 : decode cX5_morning 74 = .ok (.getfield 166, 3) := by decide +kernel
theorem dX5_morning_77 : decode cX5_morning 77 = .ok (.ifCond .ne 5, 3) := by decide +kernel
theorem dX5_morning_80 : decode cX5_morning 80 = .ok (.iload_n 1, 1) := by decide +kernel
theorem dX5_morning_81 : decode cX5_morning 81 = .ok (.ireturn, 1) := by decide +kernel
theorem dX5_morning_82 : decode cX5_morning 82 = .ok (.aload_n 0, 1) := by decide +kernel
theorem dX5_morning_83 : decode cX5_morning 83 = .ok (.invokevirtual 122, 3) := by decide +kernel
theorem dX5_morning_86 : decode cX5_morning 86 = .ok (.iconst (-1), 1) := by decide +kernel
theorem dX5_morning_87 : decode cX5_morning 87 = .ok (.aload_n 0, 1) := by decide +kernel
theorem dX5_morning_88 : decode cX5_morning 88 = .ok (.getfield 144, 3) := by decide +kernel
theorem dX5_morning_91 : decode cX5_morning 91 = .ok (.isub, 1) := by decide +kernel
theorem dX5_morning_92 : decode cX5_morning 92 = .ok (.ireturn, 1) := by decide +kernel
set_option maxRecDepth 20000 in
theorem ggX5_isSheet_X5_in : GoodIn wsX5_isSheet wsX5_in := goodIn_r _ [4] (by decide +kernel) (by decide +kernel)
set_option maxRecDepth 20000 in
theorem gX5_isSheet_X5_in : GoodIn wsX5_isSheet (va_wsS RX5 41 yX5_in wsX5_in) := goodIn_app (goodIn_of _ (by decide +kernel)) ggX5_isSheet_X5_in
theorem dX5_isSheet_0 : decode cX5_isSheet 0 = .ok (.iload_n 0, 1) := by decide +kernel
theorem dX5_isSheet_1 : decode cX5_isSheet 1 = .ok (.i2l, 1) := by decide +kernel
theorem dX5_isSheet_2 : decode cX5_isSheet 2 = .ok (.iconst 0, 1) := by decide +kernel
theorem dX5_isSheet_3 : decode cX5_isSheet 3 = .ok (.iconst 3, 1) := by decide +kernel
theorem dX5_isSheet_4 : decode cX5_isSheet 4 = .ok (.invokestatic 41, 3) := by decide +kernel
theorem dX5_isSheet_7 : decode cX5_isSheet 7 = .ok (.ireturn, 1) := by decide +kernel
set_option maxRecDepth 20000 in
theorem ggX5_sheet_X5_isSheet : GoodIn wsX5_sheet wsX5_isSheet := goodIn_r _ [9, 10, 11, 8, 12] (by decide +kernel) (by decide +kernel)
set_option maxRecDepth 20000 in
theorem gX5_sheet_X5_isSheet : GoodIn wsX5_sheet (va_wsS RX5 188 yX5_isSheet wsX5_isSheet) := goodIn_app (goodIn_of _ (by decide +kernel)) ggX5_sheet_X5_isSheet
set_option maxRecDepth 20000 in
theorem ggX5_sheet_X5_finds : GoodIn wsX5_sheet wsX5_finds := goodIn_r _ [16, 17, 1, 18, 19, 20, 21, 22, 23, 24, 25, 26, 27, 28, 29, 30, 31, 32] (by decide +kernel) (by decide +kernel)
set_option maxRecDepth 20000 in
theorem gX5_sheet_X5_finds : GoodIn wsX5_sheet (wsV RX5 37 RX5 yX5_finds wsX5_finds) := goodIn_app (goodIn_of _ (by decide +kernel)) ggX5_sheet_X5_finds
theorem dX5_sheet_0 : decode cX5_sheet 0 = .ok (.iload_n 1, 1) := by decide +kernel
theorem dX5_sheet_1 : decode cX5_sheet 1 = .ok (.invokestatic 188, 3) := by decide +kernel
theorem dX5_sheet_4 : decode cX5_sheet 4 = .ok (.ifCond .eq 25, 3) := by decide +kernel
theorem dX5_sheet_7 : decode cX5_sheet 7 = .ok (.iload_n 2, 1) := by decide +kernel
theorem dX5_sheet_8 : decode cX5_sheet 8 = .ok (.ifCond .eq 28, 3) := by decide +kernel
theorem dX5_sheet_11 : decode cX5_sheet 11 = .ok (.iload_n 2, 1) := by decide +kernel
theorem dX5_sheet_12 : decode cX5_sheet 12 = .ok (.bipush 8, 2) := by decide +kernel
theorem dX5_sheet_14 : decode cX5_sheet 14 = .ok (.if_icmp .eq 22, 3) := by decide +kernel
theorem dX5_sheet_17 : decode cX5_sheet 17 = .ok (.iload_n 2, 1) := by decide +kernel
theorem dX5_sheet_18 : decode cX5_sheet 18 = .ok (.bipush 16, 2) := by decide +kernel
theorem dX5_sheet_20 : decode cX5_sheet 20 = .ok (.if_icmp .eq 16, 3) := by decide +kernel
theorem dX5_sheet_23 : decode cX5_sheet 23 = .ok (.iload_n 2, 1) := by decide +kernel
theorem dX5_sheet_24 : decode cX5_sheet 24 = .ok (.bipush 64, 2) := by decide +kernel
theorem dX5_sheet_26 : decode cX5_sheet 26 = .ok (.if_icmp .eq 10, 3) := by decide +kernel
theorem dX5_sheet_29 : decode cX5_sheet 29 = .ok (.aload_n 0, 1) := by decide +kernel
theorem dX5_sheet_30 : decode cX5_sheet 30 = .ok (.ldc 35, 2) := by decide +kernel
theorem dX5_sheet_32 : decode cX5_sheet 32 = .ok (.invokevirtual 37, 3) := by decide +kernel
theorem dX5_sheet_35 : decode cX5_sheet 35 = .ok (.ireturn, 1) := by decide +kernel
theorem dX5_sheet_36 : decode cX5_sheet 36 = .ok (.iload_n 3, 1) := by decide +kernel
theorem dX5_sheet_37 : decode cX5_sheet 37 = .ok (.ifCond .ge 10, 3) := by decide +kernel
theorem dX5_sheet_40 : decode cX5_sheet 40 = .ok (.aload_n 0, 1) := by decide +kernel
theorem dX5_sheet_41 : decode cX5_sheet 41 = .ok (.ldc 191, 2) := by decide +kernel
theorem dX5_sheet_43 : decode cX5_sheet 43 = .ok (.invokevirtual 37, 3) := by decide +kernel
theorem dX5_sheet_46 : decode cX5_sheet 46 = .ok (.ireturn, 1) := by decide +kernel
theorem dX5_sheet_47 : decode cX5_sheet 47 = .ok (.iload_n 3, 1) := by decide +kernel
theorem dX5_sheet_48 : decode cX5_sheet 48 = .ok (.bipush 40, 2) := by decide +kernel
theorem dX5_sheet_50 : decode cX5_sheet 50 = .ok (.if_icmp .le 10, 3) := by decide +kernel
theorem dX5_sheet_53 : decode cX5_sheet 53 = .ok (.aload_n 0, 1) := by decide +kernel
theorem dX5_sheet_54 : decode cX5_sheet 54 = .ok (.ldc 35, 2) := by decide +kernel
theorem dX5_sheet_56 : decode cX5_sheet 56 = .ok (.invokevirtual 37, 3) := by decide +kernel
theorem dX5_sheet_59 : decode cX5_sheet 59 = .ok (.ireturn, 1) := by decide +kernel
theorem dX5_sheet_60 : decode cX5_sheet 60 = .ok (.aload_n 0, 1) := by decide +kernel
theorem dX5_sheet_61 : decode cX5_sheet 61 = .ok (.getfield 25, 3) := by decide +kernel
theorem dX5_sheet_64 : decode cX5_sheet 64 = .ok (.iload_n 1, 1) := by decide +kernel
theorem dX5_sheet_65 : decode cX5_sheet 65 = .ok (.iload_n 2, 1) := by decide +kernel
theorem dX5_sheet_66 : decode cX5_sheet 66 = .ok (.iastore, 1) := by decide +kernel
theorem dX5_sheet_67 : decode cX5_sheet 67 = .ok (.aload_n 0, 1) := by decide +kernel
theorem dX5_sheet_68 : decode cX5_sheet 68 = .ok (.getfield 28, 3) := by decide +kernel
theorem dX5_sheet_71 : decode cX5_sheet 71 = .ok (.iload_n 1, 1) := by decide +kernel
theorem dX5_sheet_72 : decode cX5_sheet 72 = .ok (.iload_n 2, 1) := by decide +kernel
theorem dX5_sheet_73 : decode cX5_sheet 73 = .ok (.ifCond .ne 7, 3) := by decide +kernel
theorem dX5_sheet_76 : decode cX5_sheet 76 = .ok (.iconst 0, 1) := by decide +kernel
theorem dX5_sheet_77 : decode cX5_sheet 77 = .ok (.goto 4, 3) := by decide +kernel
theorem dX5_sheet_80 : decode cX5_sheet 80 = .ok (.iload_n 3, 1) := by decide +kernel
theorem dX5_sheet_81 : decode cX5_sheet 81 = .ok (.iastore, 1) := by decide +kernel
theorem dX5_sheet_82 : decode cX5_sheet 82 = .ok (.iconst 0, 1) := by decide +kernel
theorem dX5_sheet_83 : decode cX5_sheet 83 = .ok (.istore 4, 2) := by decide +kernel
theorem dX5_sheet_85 : decode cX5_sheet 85 = .ok (.iload 4, 2) := by decide +kernel
theorem dX5_sheet_87 : decode cX5_sheet 87 = .ok (.bipush 40, 2) := by decide +kernel
theorem dX5_sheet_89 : decode cX5_sheet 89 = .ok (.if_icmp .ge 22, 3) := by decide +kernel
theorem dX5_sheet_92 : decode cX5_sheet 92 = .ok (.aload_n 0, 1) := by decide +kernel
theorem dX5_sheet_93 : decode cX5_sheet 93 = .ok (.getfield 31, 3) := by decide +kernel
theorem dX5_sheet_96 : decode cX5_sheet 96 = .ok (.bipush 40, 2) := by decide +kernel
theorem dX5_sheet_98 : decode cX5_sheet 98 = .ok (.iload_n 1, 1) := by decide +kernel
theorem dX5_sheet_99 : decode cX5_sheet 99 = .ok (.imul, 1) := by decide +kernel
theorem dX5_sheet_100 : decode cX5_sheet 100 = .ok (.iload 4, 2) := by decide +kernel
theorem dX5_sheet_102 : decode cX5_sheet 102 = .ok (.iadd, 1) := by decide +kernel
theorem dX5_sheet_103 : decode cX5_sheet 103 = .ok (.lconst 0, 1) := by decide +kernel
theorem dX5_sheet_104 : decode cX5_sheet 104 = .ok (.lastore, 1) := by decide +kernel
theorem dX5_sheet_105 : decode cX5_sheet 105 = .ok (.iinc 4 1, 3) := by decide +kernel
theorem dX5_sheet_108 : decode cX5_sheet 108 = .ok (.goto (-23), 3) := by decide +kernel
theorem dX5_sheet_111 : decode cX5_sheet 111 = .ok (.aload_n 0, 1) := by decide +kernel
theorem dX5_sheet_112 : decode cX5_sheet 112 = .ok (.getfield 28, 3) := by decide +kernel
theorem dX5_sheet_115 : decode cX5_sheet 115 = .ok (.iload_n 1, 1) := by decide +kernel
theorem dX5_sheet_116 : decode cX5_sheet 116 = .ok (.iaload, 1) := by decide +kernel
theorem dX5_sheet_117 : decode cX5_sheet 117 = .ok (.ireturn, 1) := by decide +kernel
set_option maxRecDepth 20000 in
theorem ggX5_notThere_X5_isSheet : GoodIn wsX5_notThere wsX5_isSheet := goodIn_r _ [7, 8, 9, 6, 10] (by decide +kernel) (by decide +kernel)
set_option maxRecDepth 20000 in
theorem gX5_notThere_X5_isSheet : GoodIn wsX5_notThere (va_wsS RX5 188 yX5_isSheet wsX5_isSheet) := goodIn_app (goodIn_of _ (by decide +kernel)) ggX5_notThere_X5_isSheet
theorem dX5_notThere_0 : decode cX5_notThere 0 = .ok (.iload_n 1, 1) := by decide +kernel
theorem dX5_notThere_1 : decode cX5_notThere 1 = .ok (.invokestatic 188, 3) := by decide +kernel
theorem dX5_notThere_4 : decode cX5_notThere 4 = .ok (.ifCond .ne 8, 3) := by decide +kernel
theorem dX5_notThere_7 : decode cX5_notThere 7 = .ok (.ldc 35, 2) := by decide +kernel
theorem dX5_notThere_9 : decode cX5_notThere 9 = .ok (.goto 18, 3) := by decide +kernel
theorem dX5_notThere_12 : decode cX5_notThere 12 = .ok (.aload_n 0, 1) := by decide +kernel
theorem dX5_notThere_13 : decode cX5_notThere 13 = .ok (.getfield 25, 3) := by decide +kernel
theorem dX5_notThere_16 : decode cX5_notThere 16 = .ok (.iload_n 1, 1) := by decide +kernel
theorem dX5_notThere_17 : decode cX5_notThere 17 = .ok (.iaload, 1) := by decide +kernel
theorem dX5_notThere_18 : decode cX5_notThere 18 = .ok (.ifCond .ne 8, 3) := by decide +kernel
theorem dX5_notThere_21 : decode cX5_notThere 21 = .ok (.ldc 192, 2) := by decide +kernel
theorem dX5_notThere_23 : decode cX5_notThere 23 = .ok (.goto 4, 3) := by decide +kernel
theorem dX5_notThere_26 : decode cX5_notThere 26 = .ok (.iconst 0, 1) := by decide +kernel
theorem dX5_notThere_27 : decode cX5_notThere 27 = .ok (.ireturn, 1) := by decide +kernel
theorem dX5_cutTo_0 : decode cX5_cutTo 0 = .ok (.iload_n 0, 1) := by decide +kernel
theorem dX5_cutTo_1 : decode cX5_cutTo 1 = .ok (.bipush 8, 2) := by decide +kernel
theorem dX5_cutTo_3 : decode cX5_cutTo 3 = .ok (.if_icmp .ne 10, 3) := by decide +kernel
theorem dX5_cutTo_6 : decode cX5_cutTo 6 = .ok (.lload_n 1, 1) := by decide +kernel
theorem dX5_cutTo_7 : decode cX5_cutTo 7 = .ok (.l2i, 1) := by decide +kernel
theorem dX5_cutTo_8 : decode cX5_cutTo 8 = .ok (.i2b, 1) := by decide +kernel
theorem dX5_cutTo_9 : decode cX5_cutTo 9 = .ok (.i2l, 1) := by decide +kernel
theorem dX5_cutTo_10 : decode cX5_cutTo 10 = .ok (.goto 17, 3) := by decide +kernel
theorem dX5_cutTo_13 : decode cX5_cutTo 13 = .ok (.iload_n 0, 1) := by decide +kernel
theorem dX5_cutTo_14 : decode cX5_cutTo 14 = .ok (.bipush 16, 2) := by decide +kernel
theorem dX5_cutTo_16 : decode cX5_cutTo 16 = .ok (.if_icmp .ne 10, 3) := by decide +kernel
theorem dX5_cutTo_19 : decode cX5_cutTo 19 = .ok (.lload_n 1, 1) := by decide +kernel
theorem dX5_cutTo_20 : decode cX5_cutTo 20 = .ok (.l2i, 1) := by decide +kernel
theorem dX5_cutTo_21 : decode cX5_cutTo 21 = .ok (.i2s, 1) := by decide +kernel
theorem dX5_cutTo_22 : decode cX5_cutTo 22 = .ok (.i2l, 1) := by decide +kernel
theorem dX5_cutTo_23 : decode cX5_cutTo 23 = .ok (.goto 4, 3) := by decide +kernel
theorem dX5_cutTo_26 : decode cX5_cutTo 26 = .ok (.lload_n 1, 1) := by decide +kernel
theorem dX5_cutTo_27 : decode cX5_cutTo 27 = .ok (.lreturn, 1) := by decide +kernel
set_option maxRecDepth 20000 in
theorem ggX5_write_X5_notThere : GoodIn wsX5_write wsX5_notThere := goodIn_r _ [9, 2, 4, 10, 11, 12, 8, 13, 14, 15, 16, 25, 26, 27, 28, 29, 30, 31, 32, 33, 34, 35, 36, 37, 38, 39] (by decide +kernel) (by decide +kernel)
set_option maxRecDepth 20000 in
theorem gX5_write_X5_notThere : GoodIn wsX5_write (wsV RX5 193 RX5 yX5_notThere wsX5_notThere) := goodIn_app (goodIn_of _ (by decide +kernel)) ggX5_write_X5_notThere
set_option maxRecDepth 20000 in
theorem ggX5_write_X5_in : GoodIn wsX5_write wsX5_in := goodIn_r _ [16] (by decide +kernel) (by decide +kernel)
set_option maxRecDepth 20000 in
theorem gX5_write_X5_in : GoodIn wsX5_write (va_wsS RX5 41 yX5_in wsX5_in) := goodIn_app (goodIn_of _ (by decide +kernel)) ggX5_write_X5_in
set_option maxRecDepth 20000 in
theorem ggX5_write_X5_finds : GoodIn wsX5_write wsX5_finds := goodIn_r _ [20, 21, 2, 25, 26, 27, 28, 29, 30, 31, 32, 33, 34, 35, 36, 37, 38, 39] (by decide +kernel) (by decide +kernel)
set_option maxRecDepth 20000 in
theorem gX5_write_X5_finds : GoodIn wsX5_write (wsV RX5 37 RX5 yX5_finds wsX5_finds) := goodIn_app (goodIn_of _ (by decide +kernel)) ggX5_write_X5_finds
set_option maxRecDepth 20000 in
theorem ggX5_write_X5_cutTo : GoodIn wsX5_write wsX5_cutTo := goodIn_r _ [24] (by decide +kernel) (by decide +kernel)
set_option maxRecDepth 20000 in
theorem gX5_write_X5_cutTo : GoodIn wsX5_write (va_wsS RX5 196 yX5_cutTo wsX5_cutTo) := goodIn_app (goodIn_of _ (by decide +kernel)) ggX5_write_X5_cutTo
theorem dX5_write_0 : decode cX5_write 0 = .ok (.aload_n 0, 1) := by decide +kernel
theorem dX5_write_1 : decode cX5_write 1 = .ok (.iload_n 1, 1) := by decide +kernel
theorem dX5_write_2 : decode cX5_write 2 = .ok (.invokevirtual 193, 3) := by decide +kernel
theorem dX5_write_5 : decode cX5_write 5 = .ok (.istore 5, 2) := by decide +kernel
theorem dX5_write_7 : decode cX5_write 7 = .ok (.iload 5, 2) := by decide +kernel
theorem dX5_write_9 : decode cX5_write 9 = .ok (.ifCond .ne 24, 3) := by decide +kernel
theorem dX5_write_12 : decode cX5_write 12 = .ok (.iload_n 2, 1) := by decide +kernel
theorem dX5_write_13 : decode cX5_write 13 = .ok (.i2l, 1) := by decide +kernel
theorem dX5_write_14 : decode cX5_write 14 = .ok (.iconst 0, 1) := by decide +kernel
theorem dX5_write_15 : decode cX5_write 15 = .ok (.aload_n 0, 1) := by decide +kernel
theorem dX5_write_16 : decode cX5_write 16 = .ok (.getfield 28, 3) := by decide +kernel
theorem dX5_write_19 : decode cX5_write 19 = .ok (.iload_n 1, 1) := by decide +kernel
theorem dX5_write_20 : decode cX5_write 20 = .ok (.iaload, 1) := by decide +kernel
theorem dX5_write_21 : decode cX5_write 21 = .ok (.iconst 1, 1) := by decide +kernel
theorem dX5_write_22 : decode cX5_write 22 = .ok (.isub, 1) := by decide +kernel
theorem dX5_write_23 : decode cX5_write 23 = .ok (.invokestatic 41, 3) := by decide +kernel
theorem dX5_write_26 : decode cX5_write 26 = .ok (.ifCond .ne 7, 3) := by decide +kernel
theorem dX5_write_29 : decode cX5_write 29 = .ok (.ldc 35, 2) := by decide +kernel
theorem dX5_write_31 : decode cX5_write 31 = .ok (.istore 5, 2) := by decide +kernel
theorem dX5_write_33 : decode cX5_write 33 = .ok (.iload 5, 2) := by decide +kernel
theorem dX5_write_35 : decode cX5_write 35 = .ok (.ifCond .eq 11, 3) := by decide +kernel
theorem dX5_write_38 : decode cX5_write 38 = .ok (.aload_n 0, 1) := by decide +kernel
theorem dX5_write_39 : decode cX5_write 39 = .ok (.iload 5, 2) := by decide +kernel
theorem dX5_write_41 : decode cX5_write 41 = .ok (.invokevirtual 37, 3) := by decide +kernel
theorem dX5_write_44 : decode cX5_write 44 = .ok (.i2l, 1) := by decide +kernel
theorem dX5_write_45 : decode cX5_write 45 = .ok (.lreturn, 1) := by decide +kernel
theorem dX5_write_46 : decode cX5_write 46 = .ok (.aload_n 0, 1) := by decide +kernel
theorem dX5_write_47 : decode cX5_write 47 = .ok (.getfield 31, 3) := by decide +kernel
theorem dX5_write_50 : decode cX5_write 50 = .ok (.bipush 40, 2) := by decide +kernel
theorem dX5_write_52 : decode cX5_write 52 = .ok (.iload_n 1, 1) := by decide +kernel
theorem dX5_write_53 : decode cX5_write 53 = .ok (.imul, 1) := by decide +kernel
theorem dX5_write_54 : decode cX5_write 54 = .ok (.iload_n 2, 1) := by decide +kernel
theorem dX5_write_55 : decode cX5_write 55 = .ok (.iadd, 1) := by decide +kernel
theorem dX5_write_56 : decode cX5_write 56 = .ok (.laload, 1) := by decide +kernel
theorem dX5_write_57 : decode cX5_write 57 = .ok (.lstore 6, 2) := by decide +kernel
theorem dX5_write_59 : decode cX5_write 59 = .ok (.aload_n 0, 1) := by decide +kernel
theorem dX5_write_60 : decode cX5_write 60 = .ok (.getfield 31, 3) := by decide +kernel
theorem dX5_write_63 : decode cX5_write 63 = .ok (.bipush 40, 2) := by decide +kernel
theorem dX5_write_65 : decode cX5_write 65 = .ok (.iload_n 1, 1) := by decide +kernel
theorem dX5_write_66 : decode cX5_write 66 = .ok (.imul, 1) := by decide +kernel
theorem dX5_write_67 : decode cX5_write 67 = .ok (.iload_n 2, 1) := by decide +kernel
theorem dX5_write_68 : decode cX5_write 68 = .ok (.iadd, 1) := by decide +kernel
theorem dX5_write_69 : decode cX5_write 69 = .ok (.aload_n 0, 1) := by decide +kernel
theorem dX5_write_70 : decode cX5_write 70 = .ok (.getfield 25, 3) := by decide +kernel
theorem dX5_write_73 : decode cX5_write 73 = .ok (.iload_n 1, 1) := by decide +kernel
theorem dX5_write_74 : decode cX5_write 74 = .ok (.iaload, 1) := by decide +kernel
theorem dX5_write_75 : decode cX5_write 75 = .ok (.lload_n 3, 1) := by decide +kernel
theorem dX5_write_76 : decode cX5_write 76 = .ok (.invokestatic 196, 3) := by decide +kernel
theorem dX5_write_79 : decode cX5_write 79 = .ok (.lastore, 1) := by decide +kernel
theorem dX5_write_80 : decode cX5_write 80 = .ok (.lload 6, 2) := by decide +kernel
theorem dX5_write_82 : decode cX5_write 82 = .ok (.lreturn, 1) := by decide +kernel
set_option maxRecDepth 20000 in
theorem ggX5_notCopied_X5_isSheet : GoodIn wsX5_notCopied wsX5_isSheet := goodIn_r _ [9, 10, 11, 8, 12] (by decide +kernel) (by decide +kernel)
set_option maxRecDepth 20000 in
theorem gX5_notCopied_X5_isSheet : GoodIn wsX5_notCopied (va_wsS RX5 188 yX5_isSheet wsX5_isSheet) := goodIn_app (goodIn_of _ (by decide +kernel)) ggX5_notCopied_X5_isSheet
theorem dX5_notCopied_0 : decode cX5_notCopied 0 = .ok (.iload_n 1, 1) := by decide +kernel
theorem dX5_notCopied_1 : decode cX5_notCopied 1 = .ok (.invokestatic 188, 3) := by decide +kernel
theorem dX5_notCopied_4 : decode cX5_notCopied 4 = .ok (.ifCond .eq 10, 3) := by decide +kernel
theorem dX5_notCopied_7 : decode cX5_notCopied 7 = .ok (.iload_n 3, 1) := by decide +kernel
theorem dX5_notCopied_8 : decode cX5_notCopied 8 = .ok (.invokestatic 188, 3) := by decide +kernel
theorem dX5_notCopied_11 : decode cX5_notCopied 11 = .ok (.ifCond .ne 6, 3) := by decide +kernel
theorem dX5_notCopied_14 : decode cX5_notCopied 14 = .ok (.ldc 35, 2) := by decide +kernel
theorem dX5_notCopied_16 : decode cX5_notCopied 16 = .ok (.ireturn, 1) := by decide +kernel
theorem dX5_notCopied_17 : decode cX5_notCopied 17 = .ok (.aload_n 0, 1) := by decide +kernel
theorem dX5_notCopied_18 : decode cX5_notCopied 18 = .ok (.getfield 25, 3) := by decide +kernel
theorem dX5_notCopied_21 : decode cX5_notCopied 21 = .ok (.iload_n 1, 1) := by decide +kernel
theorem dX5_notCopied_22 : decode cX5_notCopied 22 = .ok (.iaload, 1) := by decide +kernel
theorem dX5_notCopied_23 : decode cX5_notCopied 23 = .ok (.ifCond .eq 12, 3) := by decide +kernel
theorem dX5_notCopied_26 : decode cX5_notCopied 26 = .ok (.aload_n 0, 1) := by decide +kernel
theorem dX5_notCopied_27 : decode cX5_notCopied 27 = .ok (.getfield 25, 3) := by decide +kernel
theorem dX5_notCopied_30 : decode cX5_notCopied 30 = .ok (.iload_n 3, 1) := by decide +kernel
theorem dX5_notCopied_31 : decode cX5_notCopied 31 = .ok (.iaload, 1) := by decide +kernel
theorem dX5_notCopied_32 : decode cX5_notCopied 32 = .ok (.ifCond .ne 6, 3) := by decide +kernel
theorem dX5_notCopied_35 : decode cX5_notCopied 35 = .ok (.ldc 192, 2) := by decide +kernel
theorem dX5_notCopied_37 : decode cX5_notCopied 37 = .ok (.ireturn, 1) := by decide +kernel
theorem dX5_notCopied_38 : decode cX5_notCopied 38 = .ok (.aload_n 0, 1) := by decide +kernel
theorem dX5_notCopied_39 : decode cX5_notCopied 39 = .ok (.getfield 25, 3) := by decide +kernel
theorem dX5_notCopied_42 : decode cX5_notCopied 42 = .ok (.iload_n 1, 1) := by decide +kernel
theorem dX5_notCopied_43 : decode cX5_notCopied 43 = .ok (.iaload, 1) := by decide +kernel
theorem dX5_notCopied_44 : decode cX5_notCopied 44 = .ok (.aload_n 0, 1) := by decide +kernel
theorem dX5_notCopied_45 : decode cX5_notCopied 45 = .ok (.getfield 25, 3) := by decide +kernel
theorem dX5_notCopied_48 : decode cX5_notCopied 48 = .ok (.iload_n 3, 1) := by decide +kernel
theorem dX5_notCopied_49 : decode cX5_notCopied 49 = .ok (.iaload, 1) := by decide +kernel
theorem dX5_notCopied_50 : decode cX5_notCopied 50 = .ok (.if_icmp .eq 6, 3) := by decide +kernel
theorem dX5_notCopied_53 : decode cX5_notCopied 53 = .ok (.ldc 86, 2) := by decide +kernel
theorem dX5_notCopied_55 : decode cX5_notCopied 55 = .ok (.ireturn, 1) := by decide +kernel
theorem dX5_notCopied_56 : decode cX5_notCopied 56 = .ok (.iload 5, 2) := by decide +kernel
theorem dX5_notCopied_58 : decode cX5_notCopied 58 = .ok (.ifCond .lt 43, 3) := by decide +kernel
theorem dX5_notCopied_61 : decode cX5_notCopied 61 = .ok (.iload_n 2, 1) := by decide +kernel
theorem dX5_notCopied_62 : decode cX5_notCopied 62 = .ok (.ifCond .lt 39, 3) := by decide +kernel
theorem dX5_notCopied_65 : decode cX5_notCopied 65 = .ok (.iload 4, 2) := by decide +kernel
theorem dX5_notCopied_67 : decode cX5_notCopied 67 = .ok (.ifCond .lt 34, 3) := by decide +kernel
theorem dX5_notCopied_70 : decode cX5_notCopied 70 = .ok (.iload 5, 2) := by decide +kernel
theorem dX5_notCopied_72 : decode cX5_notCopied 72 = .ok (.aload_n 0, 1) := by decide +kernel
theorem dX5_notCopied_73 : decode cX5_notCopied 73 = .ok (.getfield 28, 3) := by decide +kernel
theorem dX5_notCopied_76 : decode cX5_notCopied 76 = .ok (.iload_n 1, 1) := by decide +kernel
theorem dX5_notCopied_77 : decode cX5_notCopied 77 = .ok (.iaload, 1) := by decide +kernel
theorem dX5_notCopied_78 : decode cX5_notCopied 78 = .ok (.iload_n 2, 1) := by decide +kernel
theorem dX5_notCopied_79 : decode cX5_notCopied 79 = .ok (.isub, 1) := by decide +kernel
theorem dX5_notCopied_80 : decode cX5_notCopied 80 = .ok (.if_icmp .gt 21, 3) := by decide +kernel
theorem dX5_notCopied_83 : decode cX5_notCopied 83 = .ok (.iload 5, 2) := by decide +kernel
theorem dX5_notCopied_85 : decode cX5_notCopied 85 = .ok (.aload_n 0, 1) := by decide +kernel
theorem dX5_notCopied_86 : decode cX5_notCopied 86 = .ok (.getfield 28, 3) := by decide +kernel
theorem dX5_notCopied_89 : decode cX5_notCopied 89 = .ok (.iload_n 3, 1) := by decide +kernel
theorem dX5_notCopied_90 : decode cX5_notCopied 90 = .ok (.iaload, 1) := by decide +kernel
theorem dX5_notCopied_91 : decode cX5_notCopied 91 = .ok (.iload 4, 2) := by decide +kernel
theorem dX5_notCopied_93 : decode cX5_notCopied 93 = .ok (.isub, 1) := by decide +kernel
theorem dX5_notCopied_94 : decode cX5_notCopied 94 = .ok (.if_icmp .gt 7, 3) := by decide +kernel
theorem dX5_notCopied_97 : decode cX5_notCopied 97 = .ok (.iconst 1, 1) := by decide +kernel
theorem dX5_notCopied_98 : decode cX5_notCopied 98 = .ok (.goto 4, 3) := by decide +kernel
theorem dX5_notCopied_101 : decode cX5_notCopied 101 = .ok (.iconst 0, 1) := by decide +kernel
theorem dX5_notCopied_102 : decode cX5_notCopied 102 = .ok (.istore 6, 2) := by decide +kernel
theorem dX5_notCopied_104 : decode cX5_notCopied 104 = .ok (.iload 6, 2) := by decide +kernel
theorem dX5_notCopied_106 : decode cX5_notCopied 106 = .ok (.ifCond .eq 7, 3) := by decide +kernel
theorem dX5_notCopied_109 : decode cX5_notCopied 109 = .ok (.iconst 0, 1) := by decide +kernel
theorem dX5_notCopied_110 : decode cX5_notCopied 110 = .ok (.goto 5, 3) := by decide +kernel
theorem dX5_notCopied_113 : decode cX5_notCopied 113 = .ok (.ldc 35, 2) := by decide +kernel
theorem dX5_notCopied_115 : decode cX5_notCopied 115 = .ok (.ireturn, 1) := by decide +kernel
set_option maxRecDepth 20000 in
theorem ggX5_copy_X5_notCopied : GoodIn wsX5_copy wsX5_notCopied := goodIn_r _ [6, 7, 8, 9, 10, 11, 12, 13, 5, 14, 15, 16, 17, 23, 24, 25, 26, 27, 28, 29, 30, 31, 32, 33, 34, 35, 36, 37] (by decide +kernel) (by decide +kernel)
set_option maxRecDepth 20000 in
theorem gX5_copy_X5_notCopied : GoodIn wsX5_copy (wsV RX5 200 RX5 yX5_notCopied wsX5_notCopied) := goodIn_app (goodIn_of _ (by decide +kernel)) ggX5_copy_X5_notCopied
set_option maxRecDepth 20000 in
theorem ggX5_copy_X5_finds : GoodIn wsX5_copy wsX5_finds := goodIn_r _ [21, 22, 7, 23, 24, 25, 26, 27, 28, 29, 30, 31, 32, 33, 34, 35, 36, 37] (by decide +kernel) (by decide +kernel)
set_option maxRecDepth 20000 in
theorem gX5_copy_X5_finds : GoodIn wsX5_copy (wsV RX5 37 RX5 yX5_finds wsX5_finds) := goodIn_app (goodIn_of _ (by decide +kernel)) ggX5_copy_X5_finds
theorem dX5_copy_0 : decode cX5_copy 0 = .ok (.aload_n 0, 1) := by decide +kernel
theorem dX5_copy_1 : decode cX5_copy 1 = .ok (.iload_n 1, 1) := by decide +kernel
theorem dX5_copy_2 : decode cX5_copy 2 = .ok (.iload_n 2, 1) := by decide +kernel
theorem dX5_copy_3 : decode cX5_copy 3 = .ok (.iload_n 3, 1) := by decide +kernel
theorem dX5_copy_4 : decode cX5_copy 4 = .ok (.iload 4, 2) := by decide +kernel
theorem dX5_copy_6 : decode cX5_copy 6 = .ok (.iload 5, 2) := by decide +kernel
theorem dX5_copy_8 : decode cX5_copy 8 = .ok (.invokevirtual 200, 3) := by decide +kernel
theorem dX5_copy_11 : decode cX5_copy 11 = .ok (.istore 6, 2) := by decide +kernel
theorem dX5_copy_13 : decode cX5_copy 13 = .ok (.iload 6, 2) := by decide +kernel
theorem dX5_copy_15 : decode cX5_copy 15 = .ok (.ifCond .eq 10, 3) := by decide +kernel
theorem dX5_copy_18 : decode cX5_copy 18 = .ok (.aload_n 0, 1) := by decide +kernel
theorem dX5_copy_19 : decode cX5_copy 19 = .ok (.iload 6, 2) := by decide +kernel
theorem dX5_copy_21 : decode cX5_copy 21 = .ok (.invokevirtual 37, 3) := by decide +kernel
theorem dX5_copy_24 : decode cX5_copy 24 = .ok (.ireturn, 1) := by decide +kernel
theorem dX5_copy_25 : decode cX5_copy 25 = .ok (.iconst 0, 1) := by decide +kernel
theorem dX5_copy_26 : decode cX5_copy 26 = .ok (.istore 7, 2) := by decide +kernel
theorem dX5_copy_28 : decode cX5_copy 28 = .ok (.iload 7, 2) := by decide +kernel
theorem dX5_copy_30 : decode cX5_copy 30 = .ok (.iload 5, 2) := by decide +kernel
theorem dX5_copy_32 : decode cX5_copy 32 = .ok (.if_icmp .ge 58, 3) := by decide +kernel
theorem dX5_copy_35 : decode cX5_copy 35 = .ok (.iload_n 2, 1) := by decide +kernel
theorem dX5_copy_36 : decode cX5_copy 36 = .ok (.iload 4, 2) := by decide +kernel
theorem dX5_copy_38 : decode cX5_copy 38 = .ok (.if_icmp .ge 13, 3) := by decide +kernel
theorem dX5_copy_41 : decode cX5_copy 41 = .ok (.iload 5, 2) := by decide +kernel
theorem dX5_copy_43 : decode cX5_copy 43 = .ok (.iconst 1, 1) := by decide +kernel
theorem dX5_copy_44 : decode cX5_copy 44 = .ok (.isub, 1) := by decide +kernel
theorem dX5_copy_45 : decode cX5_copy 45 = .ok (.iload 7, 2) := by decide +kernel
theorem dX5_copy_47 : decode cX5_copy 47 = .ok (.isub, 1) := by decide +kernel
theorem dX5_copy_48 : decode cX5_copy 48 = .ok (.goto 5, 3) := by decide +kernel
theorem dX5_copy_51 : decode cX5_copy 51 = .ok (.iload 7, 2) := by decide +kernel
theorem dX5_copy_53 : decode cX5_copy 53 = .ok (.istore 8, 2) := by decide +kernel
theorem dX5_copy_55 : decode cX5_copy 55 = .ok (.aload_n 0, 1) := by decide +kernel
theorem dX5_copy_56 : decode cX5_copy 56 = .ok (.getfield 31, 3) := by decide +kernel
theorem dX5_copy_59 : decode cX5_copy 59 = .ok (.bipush 40, 2) := by decide +kernel
theorem dX5_copy_61 : decode cX5_copy 61 = .ok (.iload_n 3, 1) := by decide +kernel
theorem dX5_copy_62 : decode cX5_copy 62 = .ok (.imul, 1) := by decide +kernel
theorem dX5_copy_63 : decode cX5_copy 63 = .ok (.iload 4, 2) := by decide +kernel
theorem dX5_copy_65 : decode cX5_copy 65 = .ok (.iadd, 1) := by decide +kernel
theorem dX5_copy_66 : decode cX5_copy 66 = .ok (.iload 8, 2) := by decide +kernel
theorem dX5_copy_68 : decode cX5_copy 68 = .ok (.iadd, 1) := by decide +kernel
theorem dX5_copy_69 : decode cX5_copy 69 = .ok (.aload_n 0, 1) := by decide +kernel
theorem dX5_copy_70 : decode cX5_copy 70 = .ok (.getfield 31, 3) := by decide +kernel
theorem dX5_copy_73 : decode cX5_copy 73 = .ok (.bipush 40, 2) := by decide +kernel
theorem dX5_copy_75 : decode cX5_copy 75 = .ok (.iload_n 1, 1) := by decide +kernel
theorem dX5_copy_76 : decode cX5_copy 76 = .ok (.imul, 1) := by decide +kernel
theorem dX5_copy_77 : decode cX5_copy 77 = .ok (.iload_n 2, 1) := by decide +kernel
theorem dX5_copy_78 : decode cX5_copy 78 = .ok (.iadd, 1) := by decide +kernel
theorem dX5_copy_79 : decode cX5_copy 79 = .ok (.iload 8, 2) := by decide +kernel
theorem dX5_copy_81 : decode cX5_copy 81 = .ok (.iadd, 1) := by decide +kernel
theorem dX5_copy_82 : decode cX5_copy 82 = .ok (.laload, 1) := by decide +kernel
theorem dX5_copy_83 : decode cX5_copy 83 = .ok (.lastore, 1) := by decide +kernel
theorem dX5_copy_84 : decode cX5_copy 84 = .ok (.iinc 7 1, 3) := by decide +kernel
theorem dX5_copy_87 : decode cX5_copy 87 = .ok (.goto (-59), 3) := by decide +kernel
theorem dX5_copy_90 : decode cX5_copy 90 = .ok (.iload 5, 2) := by decide +kernel
theorem dX5_copy_92 : decode cX5_copy 92 = .ok (.ireturn, 1) := by decide +kernel
set_option maxRecDepth 20000 in
theorem ggX5_lays_X5_notThere : GoodIn wsX5_lays wsX5_notThere := goodIn_r _ [8, 9, 10, 11, 12, 13, 7, 14, 15, 16, 17, 27, 28, 29, 30, 31, 32, 33, 34, 35, 36, 37, 38, 39, 40, 41] (by decide +kernel) (by decide +kernel)
set_option maxRecDepth 20000 in
theorem gX5_lays_X5_notThere : GoodIn wsX5_lays (wsV RX5 193 RX5 yX5_notThere wsX5_notThere) := goodIn_app (goodIn_of _ (by decide +kernel)) ggX5_lays_X5_notThere
set_option maxRecDepth 20000 in
theorem ggX5_lays_X5_finds : GoodIn wsX5_lays wsX5_finds := goodIn_r _ [21, 22, 9, 27, 28, 29, 30, 31, 32, 33, 34, 35, 36, 37, 38, 39, 40, 41] (by decide +kernel) (by decide +kernel)
set_option maxRecDepth 20000 in
theorem gX5_lays_X5_finds : GoodIn wsX5_lays (wsV RX5 37 RX5 yX5_finds wsX5_finds) := goodIn_app (goodIn_of _ (by decide +kernel)) ggX5_lays_X5_finds
set_option maxRecDepth 20000 in
theorem ggX5_lays_X5_in : GoodIn wsX5_lays wsX5_in := goodIn_r _ [17] (by decide +kernel) (by decide +kernel)
set_option maxRecDepth 20000 in
theorem gX5_lays_X5_in : GoodIn wsX5_lays (va_wsS RX5 41 yX5_in wsX5_in) := goodIn_app (goodIn_of _ (by decide +kernel)) ggX5_lays_X5_in
set_option maxRecDepth 20000 in
theorem ggX5_lays_X5_put : GoodIn wsX5_lays wsX5_put := goodIn_r _ [26, 2, 27, 28, 29, 30, 31, 32, 33, 34, 35, 36, 37, 38, 39, 40, 41] (by decide +kernel) (by decide +kernel)
set_option maxRecDepth 20000 in
theorem gX5_lays_X5_put : GoodIn wsX5_lays (wsV RX5 66 RX5 yX5_put wsX5_put) := goodIn_app (goodIn_of _ (by decide +kernel)) ggX5_lays_X5_put
theorem dX5_lays_0 : decode cX5_lays 0 = .ok (.aload_n 0, 1) := by decide +kernel
theorem dX5_lays_1 : decode cX5_lays 1 = .ok (.iload_n 1, 1) := by decide +kernel
theorem dX5_lays_2 : decode cX5_lays 2 = .ok (.invokevirtual 193, 3) := by decide +kernel
theorem dX5_lays_5 : decode cX5_lays 5 = .ok (.istore_n 2, 1) := by decide +kernel
theorem dX5_lays_6 : decode cX5_lays 6 = .ok (.iload_n 2, 1) := by decide +kernel
theorem dX5_lays_7 : decode cX5_lays 7 = .ok (.ifCond .eq 9, 3) := by decide +kernel
theorem dX5_lays_10 : decode cX5_lays 10 = .ok (.aload_n 0, 1) := by decide +kernel
theorem dX5_lays_11 : decode cX5_lays 11 = .ok (.iload_n 2, 1) := by decide +kernel
theorem dX5_lays_12 : decode cX5_lays 12 = .ok (.invokevirtual 37, 3) := by decide +kernel
theorem dX5_lays_15 : decode cX5_lays 15 = .ok (.ireturn, 1) := by decide +kernel
theorem dX5_lays_16 : decode cX5_lays 16 = .ok (.iconst 0, 1) := by decide +kernel
theorem dX5_lays_17 : decode cX5_lays 17 = .ok (.istore_n 3, 1) := by decide +kernel
theorem dX5_lays_18 : decode cX5_lays 18 = .ok (.iconst 0, 1) := by decide +kernel
theorem dX5_lays_19 : decode cX5_lays 19 = .ok (.istore 4, 2) := by decide +kernel
theorem dX5_lays_21 : decode cX5_lays 21 = .ok (.iload 4, 2) := by decide +kernel
theorem dX5_lays_23 : decode cX5_lays 23 = .ok (.aload_n 0, 1) := by decide +kernel
theorem dX5_lays_24 : decode cX5_lays 24 = .ok (.getfield 28, 3) := by decide +kernel
theorem dX5_lays_27 : decode cX5_lays 27 = .ok (.iload_n 1, 1) := by decide +kernel
theorem dX5_lays_28 : decode cX5_lays 28 = .ok (.iaload, 1) := by decide +kernel
theorem dX5_lays_29 : decode cX5_lays 29 = .ok (.if_icmp .ge 65, 3) := by decide +kernel
theorem dX5_lays_32 : decode cX5_lays 32 = .ok (.iload 4, 2) := by decide +kernel
theorem dX5_lays_34 : decode cX5_lays 34 = .ok (.aload_n 0, 1) := by decide +kernel
theorem dX5_lays_35 : decode cX5_lays 35 = .ok (.getfield 9, 3) := by decide +kernel
theorem dX5_lays_38 : decode cX5_lays 38 = .ok (.iconst 4, 1) := by decide +kernel
theorem dX5_lays_39 : decode cX5_lays 39 = .ok (.iaload, 1) := by decide +kernel
theorem dX5_lays_40 : decode cX5_lays 40 = .ok (.if_icmp .ge 54, 3) := by decide +kernel
theorem dX5_lays_43 : decode cX5_lays 43 = .ok (.aload_n 0, 1) := by decide +kernel
theorem dX5_lays_44 : decode cX5_lays 44 = .ok (.getfield 31, 3) := by decide +kernel
theorem dX5_lays_47 : decode cX5_lays 47 = .ok (.bipush 40, 2) := by decide +kernel
theorem dX5_lays_49 : decode cX5_lays 49 = .ok (.iload_n 1, 1) := by decide +kernel
theorem dX5_lays_50 : decode cX5_lays 50 = .ok (.imul, 1) := by decide +kernel
theorem dX5_lays_51 : decode cX5_lays 51 = .ok (.iload 4, 2) := by decide +kernel
theorem dX5_lays_53 : decode cX5_lays 53 = .ok (.iadd, 1) := by decide +kernel
theorem dX5_lays_54 : decode cX5_lays 54 = .ok (.laload, 1) := by decide +kernel
theorem dX5_lays_55 : decode cX5_lays 55 = .ok (.iconst 0, 1) := by decide +kernel
theorem dX5_lays_56 : decode cX5_lays 56 = .ok (.sipush 999, 3) := by decide +kernel
theorem dX5_lays_59 : decode cX5_lays 59 = .ok (.invokestatic 41, 3) := by decide +kernel
theorem dX5_lays_62 : decode cX5_lays 62 = .ok (.ifCond .eq 26, 3) := by decide +kernel
theorem dX5_lays_65 : decode cX5_lays 65 = .ok (.aload_n 0, 1) := by decide +kernel
theorem dX5_lays_66 : decode cX5_lays 66 = .ok (.iload 4, 2) := by decide +kernel
theorem dX5_lays_68 : decode cX5_lays 68 = .ok (.iconst 3, 1) := by decide +kernel
theorem dX5_lays_69 : decode cX5_lays 69 = .ok (.aload_n 0, 1) := by decide +kernel
theorem dX5_lays_70 : decode cX5_lays 70 = .ok (.getfield 31, 3) := by decide +kernel
theorem dX5_lays_73 : decode cX5_lays 73 = .ok (.bipush 40, 2) := by decide +kernel
theorem dX5_lays_75 : decode cX5_lays 75 = .ok (.iload_n 1, 1) := by decide +kernel
theorem dX5_lays_76 : decode cX5_lays 76 = .ok (.imul, 1) := by decide +kernel
theorem dX5_lays_77 : decode cX5_lays 77 = .ok (.iload 4, 2) := by decide +kernel
theorem dX5_lays_79 : decode cX5_lays 79 = .ok (.iadd, 1) := by decide +kernel
theorem dX5_lays_80 : decode cX5_lays 80 = .ok (.laload, 1) := by decide +kernel
theorem dX5_lays_81 : decode cX5_lays 81 = .ok (.l2i, 1) := by decide +kernel
theorem dX5_lays_82 : decode cX5_lays 82 = .ok (.invokevirtual 66, 3) := by decide +kernel
theorem dX5_lays_85 : decode cX5_lays 85 = .ok (.iinc 3 1, 3) := by decide +kernel
theorem dX5_lays_88 : decode cX5_lays 88 = .ok (.iinc 4 1, 3) := by decide +kernel
theorem dX5_lays_91 : decode cX5_lays 91 = .ok (.goto (-70), 3) := by decide +kernel
theorem dX5_lays_94 : decode cX5_lays 94 = .ok (.iload_n 3, 1) := by decide +kernel
theorem dX5_lays_95 : decode cX5_lays 95 = .ok (.ireturn, 1) := by decide +kernel
set_option maxRecDepth 20000 in
theorem ggX5_notAsked_X5_notThere : GoodIn wsX5_notAsked wsX5_notThere := goodIn_r _ [6, 1, 7, 8, 9, 10, 5, 11, 12, 13, 14, 20, 21, 22, 23, 24, 25, 26, 27, 28, 29, 30, 31, 32, 33, 34] (by decide +kernel) (by decide +kernel)
set_option maxRecDepth 20000 in
theorem gX5_notAsked_X5_notThere : GoodIn wsX5_notAsked (wsV RX5 193 RX5 yX5_notThere wsX5_notThere) := goodIn_app (goodIn_of _ (by decide +kernel)) ggX5_notAsked_X5_notThere
set_option maxRecDepth 20000 in
theorem ggX5_notAsked_X5_isPerson : GoodIn wsX5_notAsked wsX5_isPerson := goodIn_r _ [18, 19, 12, 13, 5, 14, 20, 21, 22, 23, 24, 25, 26, 27, 28, 29, 30, 31, 32, 33, 34] (by decide +kernel) (by decide +kernel)
set_option maxRecDepth 20000 in
theorem gX5_notAsked_X5_isPerson : GoodIn wsX5_notAsked (wsV RX5 75 RX5 yX5_isPerson wsX5_isPerson) := goodIn_app (goodIn_of _ (by decide +kernel)) ggX5_notAsked_X5_isPerson
theorem dX5_notAsked_0 : decode cX5_notAsked 0 = .ok (.aload_n 0, 1) := by decide +kernel
theorem dX5_notAsked_1 : decode cX5_notAsked 1 = .ok (.iload_n 1, 1) := by decide +kernel
theorem dX5_notAsked_2 : decode cX5_notAsked 2 = .ok (.invokevirtual 193, 3) := by decide +kernel
theorem dX5_notAsked_5 : decode cX5_notAsked 5 = .ok (.istore_n 3, 1) := by decide +kernel
theorem dX5_notAsked_6 : decode cX5_notAsked 6 = .ok (.iload_n 3, 1) := by decide +kernel
theorem dX5_notAsked_7 : decode cX5_notAsked 7 = .ok (.ifCond .ne 16, 3) := by decide +kernel
theorem dX5_notAsked_10 : decode cX5_notAsked 10 = .ok (.aload_n 0, 1) := by decide +kernel
theorem dX5_notAsked_11 : decode cX5_notAsked 11 = .ok (.iload_n 2, 1) := by decide +kernel
theorem dX5_notAsked_12 : decode cX5_notAsked 12 = .ok (.invokevirtual 75, 3) := by decide +kernel
theorem dX5_notAsked_15 : decode cX5_notAsked 15 = .ok (.ifCond .ne 8, 3) := by decide +kernel
theorem dX5_notAsked_18 : decode cX5_notAsked 18 = .ok (.ldc 35, 2) := by decide +kernel
theorem dX5_notAsked_20 : decode cX5_notAsked 20 = .ok (.goto 4, 3) := by decide +kernel
theorem dX5_notAsked_23 : decode cX5_notAsked 23 = .ok (.iload_n 3, 1) := by decide +kernel
theorem dX5_notAsked_24 : decode cX5_notAsked 24 = .ok (.ireturn, 1) := by decide +kernel
set_option maxRecDepth 20000 in
theorem ggX5_book_X5_notAsked : GoodIn wsX5_book wsX5_notAsked := goodIn_r _ [8, 9, 10, 11, 12, 7, 13, 3, 14, 15, 16, 17, 18, 19, 20, 21, 22, 23, 24, 25, 85, 86, 87, 88, 89, 90, 91, 92, 93, 94, 95, 96, 97, 98, 99] (by decide +kernel) (by decide +kernel)
set_option maxRecDepth 20000 in
theorem gX5_book_X5_notAsked : GoodIn wsX5_book (wsV RX5 204 RX5 yX5_notAsked wsX5_notAsked) := goodIn_app (goodIn_of _ (by decide +kernel)) ggX5_book_X5_notAsked
set_option maxRecDepth 20000 in
theorem ggX5_book_X5_finds : GoodIn wsX5_book wsX5_finds := goodIn_r _ [29, 30, 9, 85, 86, 87, 88, 89, 90, 91, 92, 93, 94, 95, 96, 97, 98, 99] (by decide +kernel) (by decide +kernel)
set_option maxRecDepth 20000 in
theorem gX5_book_X5_finds : GoodIn wsX5_book (wsV RX5 37 RX5 yX5_finds wsX5_finds) := goodIn_app (goodIn_of _ (by decide +kernel)) ggX5_book_X5_finds
set_option maxRecDepth 20000 in
theorem ggX5_book_X5_thinks : GoodIn wsX5_book wsX5_thinks := goodIn_r _ [34, 25, 35, 36, 37, 7, 38, 85, 86, 87, 88, 89, 90, 91, 92, 93, 94, 95, 96, 97, 98, 99] (by decide +kernel) (by decide +kernel)
set_option maxRecDepth 20000 in
theorem gX5_book_X5_thinks : GoodIn wsX5_book (wsV RX5 119 RX5 yX5_thinks wsX5_thinks) := goodIn_app (goodIn_of _ (by decide +kernel)) ggX5_book_X5_thinks
set_option maxRecDepth 20000 in
theorem ggX5_book_X5_it : GoodIn wsX5_book wsX5_it := goodIn_r _ [42, 25, 85, 86, 87, 88, 89, 90, 91, 92, 93, 94, 95, 96, 97, 98, 99] (by decide +kernel) (by decide +kernel)
set_option maxRecDepth 20000 in
theorem gX5_book_X5_it : GoodIn wsX5_book (wsV RX5 45 RX5 yX5_it wsX5_it) := goodIn_app (goodIn_of _ (by decide +kernel)) ggX5_book_X5_it
set_option maxRecDepth 20000 in
theorem ggX5_book_X5_cutTo : GoodIn wsX5_book wsX5_cutTo := goodIn_r _ [45] (by decide +kernel) (by decide +kernel)
set_option maxRecDepth 20000 in
theorem gX5_book_X5_cutTo : GoodIn wsX5_book (va_wsS RX5 196 yX5_cutTo wsX5_cutTo) := goodIn_app (goodIn_of _ (by decide +kernel)) ggX5_book_X5_cutTo
set_option maxRecDepth 20000 in
theorem ggX5_book_X5_goes : GoodIn wsX5_book wsX5_goes := goodIn_r _ [49, 25, 39, 40, 41, 7, 42, 50, 51, 52, 53, 54, 55, 56, 57, 58, 59, 60, 61, 62, 63, 64, 65, 66, 67, 68, 69, 70, 71, 72, 73, 74, 75, 76, 77, 78, 79, 80, 85, 86, 87, 88, 89, 90, 91, 92, 93, 94, 95, 96, 97, 98, 99] (by decide +kernel) (by decide +kernel)
set_option maxRecDepth 20000 in
theorem gX5_book_X5_goes : GoodIn wsX5_book (wsV RX5 107 RX5 yX5_goes wsX5_goes) := goodIn_app (goodIn_of _ (by decide +kernel)) ggX5_book_X5_goes
set_option maxRecDepth 20000 in
theorem ggX5_book_X5_putsBack : GoodIn wsX5_book wsX5_putsBack := goodIn_r _ [84, 35, 25, 36, 37, 7, 38, 85, 86, 87, 88, 89, 90, 91, 92, 93, 94, 95, 96, 97, 98, 99] (by decide +kernel) (by decide +kernel)
set_option maxRecDepth 20000 in
theorem gX5_book_X5_putsBack : GoodIn wsX5_book (wsV RX5 122 RX5 yX5_putsBack wsX5_putsBack) := goodIn_app (goodIn_of _ (by decide +kernel)) ggX5_book_X5_putsBack
theorem dX5_book_0 : decode cX5_book 0 = .ok (.aload_n 0, 1) := by decide +kernel
theorem dX5_book_1 : decode cX5_book 1 = .ok (.iload_n 1, 1) := by decide +kernel
theorem dX5_book_2 : decode cX5_book 2 = .ok (.iload_n 2, 1) := by decide +kernel
theorem dX5_book_3 : decode cX5_book 3 = .ok (.invokevirtual 204, 3) := by decide +kernel
theorem dX5_book_6 : decode cX5_book 6 = .ok (.istore_n 3, 1) := by decide +kernel
theorem dX5_book_7 : decode cX5_book 7 = .ok (.iload_n 3, 1) := by decide +kernel
theorem dX5_book_8 : decode cX5_book 8 = .ok (.ifCond .eq 9, 3) := by decide +kernel
theorem dX5_book_11 : decode cX5_book 11 = .ok (.aload_n 0, 1) := by decide +kernel
theorem dX5_book_12 : decode cX5_book 12 = .ok (.iload_n 3, 1) := by decide +kernel
theorem dX5_book_13 : decode cX5_book 13 = .ok (.invokevirtual 37, 3) := by decide +kernel
theorem dX5_book_16 : decode cX5_book 16 = .ok (.ireturn, 1) := by decide +kernel
theorem dX5_book_17 : decode cX5_book 17 = .ok (.aload_n 0, 1) := by decide +kernel
theorem dX5_book_18 : decode cX5_book 18 = .ok (.invokevirtual 119, 3) := by decide +kernel
theorem dX5_book_21 : decode cX5_book 21 = .ok (.iconst 0, 1) := by decide +kernel
theorem dX5_book_22 : decode cX5_book 22 = .ok (.istore 4, 2) := by decide +kernel
theorem dX5_book_24 : decode cX5_book 24 = .ok (.iload 4, 2) := by decide +kernel
theorem dX5_book_26 : decode cX5_book 26 = .ok (.aload_n 0, 1) := by decide +kernel
theorem dX5_book_27 : decode cX5_book 27 = .ok (.getfield 28, 3) := by decide +kernel
theorem dX5_book_30 : decode cX5_book 30 = .ok (.iload_n 1, 1) := by decide +kernel
theorem dX5_book_31 : decode cX5_book 31 = .ok (.iaload, 1) := by decide +kernel
theorem dX5_book_32 : decode cX5_book 32 = .ok (.if_icmp .ge 41, 3) := by decide +kernel
theorem dX5_book_35 : decode cX5_book 35 = .ok (.aload_n 0, 1) := by decide +kernel
theorem dX5_book_36 : decode cX5_book 36 = .ok (.getfield 31, 3) := by decide +kernel
theorem dX5_book_39 : decode cX5_book 39 = .ok (.bipush 40, 2) := by decide +kernel
theorem dX5_book_41 : decode cX5_book 41 = .ok (.iload_n 1, 1) := by decide +kernel
theorem dX5_book_42 : decode cX5_book 42 = .ok (.imul, 1) := by decide +kernel
theorem dX5_book_43 : decode cX5_book 43 = .ok (.iload 4, 2) := by decide +kernel
theorem dX5_book_45 : decode cX5_book 45 = .ok (.iadd, 1) := by decide +kernel
theorem dX5_book_46 : decode cX5_book 46 = .ok (.aload_n 0, 1) := by decide +kernel
theorem dX5_book_47 : decode cX5_book 47 = .ok (.getfield 25, 3) := by decide +kernel
theorem dX5_book_50 : decode cX5_book 50 = .ok (.iload_n 1, 1) := by decide +kernel
theorem dX5_book_51 : decode cX5_book 51 = .ok (.iaload, 1) := by decide +kernel
theorem dX5_book_52 : decode cX5_book 52 = .ok (.aload_n 0, 1) := by decide +kernel
theorem dX5_book_53 : decode cX5_book 53 = .ok (.iload_n 2, 1) := by decide +kernel
theorem dX5_book_54 : decode cX5_book 54 = .ok (.iconst 3, 1) := by decide +kernel
theorem dX5_book_55 : decode cX5_book 55 = .ok (.invokevirtual 45, 3) := by decide +kernel
theorem dX5_book_58 : decode cX5_book 58 = .ok (.i2l, 1) := by decide +kernel
theorem dX5_book_59 : decode cX5_book 59 = .ok (.invokestatic 196, 3) := by decide +kernel
theorem dX5_book_62 : decode cX5_book 62 = .ok (.lastore, 1) := by decide +kernel
theorem dX5_book_63 : decode cX5_book 63 = .ok (.aload_n 0, 1) := by decide +kernel
theorem dX5_book_64 : decode cX5_book 64 = .ok (.invokevirtual 107, 3) := by decide +kernel
theorem dX5_book_67 : decode cX5_book 67 = .ok (.iinc 4 1, 3) := by decide +kernel
theorem dX5_book_70 : decode cX5_book 70 = .ok (.goto (-46), 3) := by decide +kernel
theorem dX5_book_73 : decode cX5_book 73 = .ok (.aload_n 0, 1) := by decide +kernel
theorem dX5_book_74 : decode cX5_book 74 = .ok (.invokevirtual 122, 3) := by decide +kernel
theorem dX5_book_77 : decode cX5_book 77 = .ok (.aload_n 0, 1) := by decide +kernel
theorem dX5_book_78 : decode cX5_book 78 = .ok (.getfield 28, 3) := by decide +kernel
theorem dX5_book_81 : decode cX5_book 81 = .ok (.iload_n 1, 1) := by decide +kernel
theorem dX5_book_82 : decode cX5_book 82 = .ok (.iaload, 1) := by decide +kernel
theorem dX5_book_83 : decode cX5_book 83 = .ok (.ireturn, 1) := by decide +kernel
set_option maxRecDepth 20000 in
theorem ggX5_isBook_X5_it : GoodIn wsX5_isBook wsX5_it := goodIn_r _ [7, 8, 52, 53, 54, 55, 56, 57, 58, 59, 60, 61, 62, 63, 64, 65, 66] (by decide +kernel) (by decide +kernel)
set_option maxRecDepth 20000 in
theorem gX5_isBook_X5_it : GoodIn wsX5_isBook (wsV RX5 45 RX5 yX5_it wsX5_it) := goodIn_app (goodIn_of _ (by decide +kernel)) ggX5_isBook_X5_it
set_option maxRecDepth 20000 in
theorem ggX5_isBook_X5_goes : GoodIn wsX5_isBook wsX5_goes := goodIn_r _ [12, 8, 3, 4, 5, 6, 7, 13, 14, 15, 16, 17, 18, 19, 20, 21, 22, 23, 24, 25, 26, 27, 28, 29, 30, 31, 32, 33, 34, 35, 36, 37, 38, 39, 40, 41, 42, 43, 52, 53, 54, 55, 56, 57, 58, 59, 60, 61, 62, 63, 64, 65, 66] (by decide +kernel) (by decide +kernel)
set_option maxRecDepth 20000 in
theorem gX5_isBook_X5_goes : GoodIn wsX5_isBook (wsV RX5 107 RX5 yX5_goes wsX5_goes) := goodIn_app (goodIn_of _ (by decide +kernel)) ggX5_isBook_X5_goes
set_option maxRecDepth 20000 in
theorem ggX5_isBook_X5_putsBack : GoodIn wsX5_isBook wsX5_putsBack := goodIn_r _ [47, 48, 8, 49, 50, 6, 51, 52, 53, 54, 55, 56, 57, 58, 59, 60, 61, 62, 63, 64, 65, 66] (by decide +kernel) (by decide +kernel)
set_option maxRecDepth 20000 in
theorem gX5_isBook_X5_putsBack : GoodIn wsX5_isBook (wsV RX5 122 RX5 yX5_putsBack wsX5_putsBack) := goodIn_app (goodIn_of _ (by decide +kernel)) ggX5_isBook_X5_putsBack
theorem dX5_isBook_0 : decode cX5_isBook 0 = .ok (.iconst 1, 1) := by decide +kernel
theorem dX5_isBook_1 : decode cX5_isBook 1 = .ok (.istore_n 3, 1) := by decide +kernel
theorem dX5_isBook_2 : decode cX5_isBook 2 = .ok (.iconst 0, 1) := by decide +kernel
theorem dX5_isBook_3 : decode cX5_isBook 3 = .ok (.istore 4, 2) := by decide +kernel
theorem dX5_isBook_5 : decode cX5_isBook 5 = .ok (.iload 4, 2) := by decide +kernel
theorem dX5_isBook_7 : decode cX5_isBook 7 = .ok (.aload_n 0, 1) := by decide +kernel
theorem dX5_isBook_8 : decode cX5_isBook 8 = .ok (.getfield 28, 3) := by decide +kernel
theorem dX5_isBook_11 : decode cX5_isBook 11 = .ok (.iload_n 1, 1) := by decide +kernel
theorem dX5_isBook_12 : decode cX5_isBook 12 = .ok (.iaload, 1) := by decide +kernel
theorem dX5_isBook_13 : decode cX5_isBook 13 = .ok (.if_icmp .ge 46, 3) := by decide +kernel
theorem dX5_isBook_16 : decode cX5_isBook 16 = .ok (.iload_n 3, 1) := by decide +kernel
theorem dX5_isBook_17 : decode cX5_isBook 17 = .ok (.ifCond .eq 42, 3) := by decide +kernel
theorem dX5_isBook_20 : decode cX5_isBook 20 = .ok (.aload_n 0, 1) := by decide +kernel
theorem dX5_isBook_21 : decode cX5_isBook 21 = .ok (.getfield 31, 3) := by decide +kernel
theorem dX5_isBook_24 : decode cX5_isBook 24 = .ok (.bipush 40, 2) := by decide +kernel
theorem dX5_isBook_26 : decode cX5_isBook 26 = .ok (.iload_n 1, 1) := by decide +kernel
theorem dX5_isBook_27 : decode cX5_isBook 27 = .ok (.imul, 1) := by decide +kernel
theorem dX5_isBook_28 : decode cX5_isBook 28 = .ok (.iload 4, 2) := by decide +kernel
theorem dX5_isBook_30 : decode cX5_isBook 30 = .ok (.iadd, 1) := by decide +kernel
theorem dX5_isBook_31 : decode cX5_isBook 31 = .ok (.laload, 1) := by decide +kernel
theorem dX5_isBook_32 : decode cX5_isBook 32 = .ok (.aload_n 0, 1) := by decide +kernel
theorem dX5_isBook_33 : decode cX5_isBook 33 = .ok (.iload_n 2, 1) := by decide +kernel
theorem dX5_isBook_34 : decode cX5_isBook 34 = .ok (.iconst 3, 1) := by decide +kernel
theorem dX5_isBook_35 : decode cX5_isBook 35 = .ok (.invokevirtual 45, 3) := by decide +kernel
theorem dX5_isBook_38 : decode cX5_isBook 38 = .ok (.i2l, 1) := by decide +kernel
theorem dX5_isBook_39 : decode cX5_isBook 39 = .ok (.lcmp, 1) := by decide +kernel
theorem dX5_isBook_40 : decode cX5_isBook 40 = .ok (.ifCond .ne 7, 3) := by decide +kernel
theorem dX5_isBook_43 : decode cX5_isBook 43 = .ok (.iconst 1, 1) := by decide +kernel
theorem dX5_isBook_44 : decode cX5_isBook 44 = .ok (.goto 4, 3) := by decide +kernel
theorem dX5_isBook_47 : decode cX5_isBook 47 = .ok (.iconst 0, 1) := by decide +kernel
theorem dX5_isBook_48 : decode cX5_isBook 48 = .ok (.istore_n 3, 1) := by decide +kernel
theorem dX5_isBook_49 : decode cX5_isBook 49 = .ok (.aload_n 0, 1) := by decide +kernel
theorem dX5_isBook_50 : decode cX5_isBook 50 = .ok (.invokevirtual 107, 3) := by decide +kernel
theorem dX5_isBook_53 : decode cX5_isBook 53 = .ok (.iinc 4 1, 3) := by decide +kernel
theorem dX5_isBook_56 : decode cX5_isBook 56 = .ok (.goto (-51), 3) := by decide +kernel
theorem dX5_isBook_59 : decode cX5_isBook 59 = .ok (.aload_n 0, 1) := by decide +kernel
theorem dX5_isBook_60 : decode cX5_isBook 60 = .ok (.invokevirtual 122, 3) := by decide +kernel
theorem dX5_isBook_63 : decode cX5_isBook 63 = .ok (.iload_n 3, 1) := by decide +kernel
theorem dX5_isBook_64 : decode cX5_isBook 64 = .ok (.ireturn, 1) := by decide +kernel
set_option maxRecDepth 20000 in
theorem ggX5_read_X5_notAsked : GoodIn wsX5_read wsX5_notAsked := goodIn_r _ [5, 6, 7, 8, 9, 4, 10, 11, 12, 13, 14, 15, 16, 17, 18, 19, 20, 21, 22, 23, 86, 87, 88, 89, 90, 91, 92, 93, 94, 95, 96, 97, 98, 99, 100] (by decide +kernel) (by decide +kernel)
set_option maxRecDepth 20000 in
theorem gX5_read_X5_notAsked : GoodIn wsX5_read (wsV RX5 204 RX5 yX5_notAsked wsX5_notAsked) := goodIn_app (goodIn_of _ (by decide +kernel)) ggX5_read_X5_notAsked
set_option maxRecDepth 20000 in
theorem ggX5_read_X5_finds : GoodIn wsX5_read wsX5_finds := goodIn_r _ [27, 28, 6, 86, 87, 88, 89, 90, 91, 92, 93, 94, 95, 96, 97, 98, 99, 100] (by decide +kernel) (by decide +kernel)
set_option maxRecDepth 20000 in
theorem gX5_read_X5_finds : GoodIn wsX5_read (wsV RX5 37 RX5 yX5_finds wsX5_finds) := goodIn_app (goodIn_of _ (by decide +kernel)) ggX5_read_X5_finds
set_option maxRecDepth 20000 in
theorem ggX5_read_X5_thinks : GoodIn wsX5_read wsX5_thinks := goodIn_r _ [32, 23, 33, 34, 35, 4, 36, 86, 87, 88, 89, 90, 91, 92, 93, 94, 95, 96, 97, 98, 99, 100] (by decide +kernel) (by decide +kernel)
set_option maxRecDepth 20000 in
theorem gX5_read_X5_thinks : GoodIn wsX5_read (wsV RX5 119 RX5 yX5_thinks wsX5_thinks) := goodIn_app (goodIn_of _ (by decide +kernel)) ggX5_read_X5_thinks
set_option maxRecDepth 20000 in
theorem ggX5_read_X5_put : GoodIn wsX5_read wsX5_put := goodIn_r _ [40, 23, 86, 87, 88, 89, 90, 91, 92, 93, 94, 95, 96, 97, 98, 99, 100] (by decide +kernel) (by decide +kernel)
set_option maxRecDepth 20000 in
theorem gX5_read_X5_put : GoodIn wsX5_read (wsV RX5 66 RX5 yX5_put wsX5_put) := goodIn_app (goodIn_of _ (by decide +kernel)) ggX5_read_X5_put
set_option maxRecDepth 20000 in
theorem ggX5_read_X5_isBook : GoodIn wsX5_read wsX5_isBook := goodIn_r _ [44, 45, 46, 47, 48, 49, 4, 50, 23, 51, 52, 53, 54, 55, 56, 57, 58, 59, 60, 61, 37, 38, 39, 40, 62, 63, 64, 65, 66, 67, 68, 69, 70, 71, 72, 73, 74, 75, 76, 77, 78, 79, 80, 81, 82, 83, 84, 85, 33, 34, 35, 36, 86, 87, 88, 89, 90, 91, 92, 93, 94, 95, 96, 97, 98, 99, 100] (by decide +kernel) (by decide +kernel)
set_option maxRecDepth 20000 in
theorem gX5_read_X5_isBook : GoodIn wsX5_read (wsV RX5 207 RX5 yX5_isBook wsX5_isBook) := goodIn_app (goodIn_of _ (by decide +kernel)) ggX5_read_X5_isBook
theorem dX5_read_0 : decode cX5_read 0 = .ok (.aload_n 0, 1) := by decide +kernel
theorem dX5_read_1 : decode cX5_read 1 = .ok (.iload_n 1, 1) := by decide +kernel
theorem dX5_read_2 : decode cX5_read 2 = .ok (.iload_n 2, 1) := by decide +kernel
theorem dX5_read_3 : decode cX5_read 3 = .ok (.invokevirtual 204, 3) := by decide +kernel
theorem dX5_read_6 : decode cX5_read 6 = .ok (.istore_n 3, 1) := by decide +kernel
theorem dX5_read_7 : decode cX5_read 7 = .ok (.iload_n 3, 1) := by decide +kernel
theorem dX5_read_8 : decode cX5_read 8 = .ok (.ifCond .eq 9, 3) := by decide +kernel
theorem dX5_read_11 : decode cX5_read 11 = .ok (.aload_n 0, 1) := by decide +kernel
theorem dX5_read_12 : decode cX5_read 12 = .ok (.iload_n 3, 1) := by decide +kernel
theorem dX5_read_13 : decode cX5_read 13 = .ok (.invokevirtual 37, 3) := by decide +kernel
theorem dX5_read_16 : decode cX5_read 16 = .ok (.ireturn, 1) := by decide +kernel
theorem dX5_read_17 : decode cX5_read 17 = .ok (.aload_n 0, 1) := by decide +kernel
theorem dX5_read_18 : decode cX5_read 18 = .ok (.invokevirtual 119, 3) := by decide +kernel
theorem dX5_read_21 : decode cX5_read 21 = .ok (.iconst 0, 1) := by decide +kernel
theorem dX5_read_22 : decode cX5_read 22 = .ok (.istore 4, 2) := by decide +kernel
theorem dX5_read_24 : decode cX5_read 24 = .ok (.iconst 0, 1) := by decide +kernel
theorem dX5_read_25 : decode cX5_read 25 = .ok (.istore 5, 2) := by decide +kernel
theorem dX5_read_27 : decode cX5_read 27 = .ok (.iload 5, 2) := by decide +kernel
theorem dX5_read_29 : decode cX5_read 29 = .ok (.bipush 60, 2) := by decide +kernel
theorem dX5_read_31 : decode cX5_read 31 = .ok (.if_icmp .ge 50, 3) := by decide +kernel
theorem dX5_read_34 : decode cX5_read 34 = .ok (.aload_n 0, 1) := by decide +kernel
theorem dX5_read_35 : decode cX5_read 35 = .ok (.iload_n 2, 1) := by decide +kernel
theorem dX5_read_36 : decode cX5_read 36 = .ok (.iconst 0, 1) := by decide +kernel
theorem dX5_read_37 : decode cX5_read 37 = .ok (.iload 5, 2) := by decide +kernel
theorem dX5_read_39 : decode cX5_read 39 = .ok (.bipush 10, 2) := by decide +kernel
theorem dX5_read_41 : decode cX5_read 41 = .ok (.idiv, 1) := by decide +kernel
theorem dX5_read_42 : decode cX5_read 42 = .ok (.invokevirtual 66, 3) := by decide +kernel
theorem dX5_read_45 : decode cX5_read 45 = .ok (.aload_n 0, 1) := by decide +kernel
theorem dX5_read_46 : decode cX5_read 46 = .ok (.iload_n 2, 1) := by decide +kernel
theorem dX5_read_47 : decode cX5_read 47 = .ok (.iconst 2, 1) := by decide +kernel
theorem dX5_read_48 : decode cX5_read 48 = .ok (.iload 5, 2) := by decide +kernel
theorem dX5_read_50 : decode cX5_read 50 = .ok (.bipush 10, 2) := by decide +kernel
theorem dX5_read_52 : decode cX5_read 52 = .ok (.irem, 1) := by decide +kernel
theorem dX5_read_53 : decode cX5_read 53 = .ok (.invokevirtual 66, 3) := by decide +kernel
theorem dX5_read_56 : decode cX5_read 56 = .ok (.iload 4, 2) := by decide +kernel
theorem dX5_read_58 : decode cX5_read 58 = .ok (.aload_n 0, 1) := by decide +kernel
theorem dX5_read_59 : decode cX5_read 59 = .ok (.iload_n 1, 1) := by decide +kernel
theorem dX5_read_60 : decode cX5_read 60 = .ok (.iload_n 2, 1) := by decide +kernel
theorem dX5_read_61 : decode cX5_read 61 = .ok (.invokevirtual 207, 3) := by decide +kernel
theorem dX5_read_64 : decode cX5_read 64 = .ok (.ifCond .eq 7, 3) := by decide +kernel
theorem dX5_read_67 : decode cX5_read 67 = .ok (.iconst 1, 1) := by decide +kernel
theorem dX5_read_68 : decode cX5_read 68 = .ok (.goto 4, 3) := by decide +kernel
theorem dX5_read_71 : decode cX5_read 71 = .ok (.iconst 0, 1) := by decide +kernel
theorem dX5_read_72 : decode cX5_read 72 = .ok (.iadd, 1) := by decide +kernel
theorem dX5_read_73 : decode cX5_read 73 = .ok (.istore 4, 2) := by decide +kernel
theorem dX5_read_75 : decode cX5_read 75 = .ok (.iinc 5 1, 3) := by decide +kernel
theorem dX5_read_78 : decode cX5_read 78 = .ok (.goto (-51), 3) := by decide +kernel
theorem dX5_read_81 : decode cX5_read 81 = .ok (.iload 4, 2) := by decide +kernel
theorem dX5_read_83 : decode cX5_read 83 = .ok (.ireturn, 1) := by decide +kernel
set_option maxRecDepth 20000 in
theorem ggX5_image_X5_copyAll : GoodIn wsX5_image wsX5_copyAll := goodIn_r _ [7] (by decide +kernel) (by decide +kernel)
set_option maxRecDepth 20000 in
theorem gX5_image_X5_copyAll : GoodIn wsX5_image (va_wsS RX5 115 yX5_copyAll wsX5_copyAll) := goodIn_app (goodIn_of _ (by decide +kernel)) ggX5_image_X5_copyAll
theorem dX5_image_0 : decode cX5_image 0 = .ok (.aload_n 0, 1) := by decide +kernel
theorem dX5_image_1 : decode cX5_image 1 = .ok (.getfield 9, 3) := by decide +kernel
theorem dX5_image_4 : decode cX5_image 4 = .ok (.aload_n 0, 1) := by decide +kernel
theorem dX5_image_5 : decode cX5_image 5 = .ok (.getfield 13, 3) := by decide +kernel
theorem dX5_image_8 : decode cX5_image 8 = .ok (.invokestatic 115, 3) := by decide +kernel
theorem dX5_image_11 : decode cX5_image 11 = .ok (.aload_n 0, 1) := by decide +kernel
theorem dX5_image_12 : decode cX5_image 12 = .ok (.iconst 1, 1) := by decide +kernel
theorem dX5_image_13 : decode cX5_image 13 = .ok (.putfield 210, 3) := by decide +kernel
theorem dX5_image_16 : decode cX5_image 16 = .ok (.iconst 1, 1) := by decide +kernel
theorem dX5_image_17 : decode cX5_image 17 = .ok (.ireturn, 1) := by decide +kernel
set_option maxRecDepth 20000 in
theorem ggX5_undo_X5_finds : GoodIn wsX5_undo wsX5_finds := goodIn_r _ [9, 10, 11, 15, 16, 17, 18, 19, 20, 21, 22, 23, 24, 25, 26, 27, 28, 29] (by decide +kernel) (by decide +kernel)
set_option maxRecDepth 20000 in
theorem gX5_undo_X5_finds : GoodIn wsX5_undo (wsV RX5 37 RX5 yX5_finds wsX5_finds) := goodIn_app (goodIn_of _ (by decide +kernel)) ggX5_undo_X5_finds
set_option maxRecDepth 20000 in
theorem ggX5_undo_X5_copyAll : GoodIn wsX5_undo wsX5_copyAll := goodIn_r _ [14] (by decide +kernel) (by decide +kernel)
set_option maxRecDepth 20000 in
theorem gX5_undo_X5_copyAll : GoodIn wsX5_undo (va_wsS RX5 115 yX5_copyAll wsX5_copyAll) := goodIn_app (goodIn_of _ (by decide +kernel)) ggX5_undo_X5_copyAll
theorem dX5_undo_0 : decode cX5_undo 0 = .ok (.aload_n 0, 1) := by decide +kernel
theorem dX5_undo_1 : decode cX5_undo 1 = .ok (.getfield 210, 3) := by decide +kernel
theorem dX5_undo_4 : decode cX5_undo 4 = .ok (.ifCond .ne 10, 3) := by decide +kernel
theorem dX5_undo_7 : decode cX5_undo 7 = .ok (.aload_n 0, 1) := by decide +kernel
theorem dX5_undo_8 : decode cX5_undo 8 = .ok (.ldc 36, 2) := by decide +kernel
theorem dX5_undo_10 : decode cX5_undo 10 = .ok (.invokevirtual 37, 3) := by decide +kernel
theorem dX5_undo_13 : decode cX5_undo 13 = .ok (.ireturn, 1) := by decide +kernel
theorem dX5_undo_14 : decode cX5_undo 14 = .ok (.aload_n 0, 1) := by decide +kernel
theorem dX5_undo_15 : decode cX5_undo 15 = .ok (.getfield 13, 3) := by decide +kernel
theorem dX5_undo_18 : decode cX5_undo 18 = .ok (.aload_n 0, 1) := by decide +kernel
theorem dX5_undo_19 : decode cX5_undo 19 = .ok (.getfield 9, 3) := by decide +kernel
theorem dX5_undo_22 : decode cX5_undo 22 = .ok (.invokestatic 115, 3) := by decide +kernel
theorem dX5_undo_25 : decode cX5_undo 25 = .ok (.aload_n 0, 1) := by decide +kernel
theorem dX5_undo_26 : decode cX5_undo 26 = .ok (.getfield 9, 3) := by decide +kernel
theorem dX5_undo_29 : decode cX5_undo 29 = .ok (.iconst 4, 1) := by decide +kernel
theorem dX5_undo_30 : decode cX5_undo 30 = .ok (.iaload, 1) := by decide +kernel
theorem dX5_undo_31 : decode cX5_undo 31 = .ok (.ireturn, 1) := by decide +kernel
theorem dX5_tear_0 : decode cX5_tear 0 = .ok (.aload_n 0, 1) := by decide +kernel
theorem dX5_tear_1 : decode cX5_tear 1 = .ok (.getfield 210, 3) := by decide +kernel
theorem dX5_tear_4 : decode cX5_tear 4 = .ok (.ifCond .eq 7, 3) := by decide +kernel
theorem dX5_tear_7 : decode cX5_tear 7 = .ok (.iconst 1, 1) := by decide +kernel
theorem dX5_tear_8 : decode cX5_tear 8 = .ok (.goto 4, 3) := by decide +kernel
theorem dX5_tear_11 : decode cX5_tear 11 = .ok (.iconst 0, 1) := by decide +kernel
theorem dX5_tear_12 : decode cX5_tear 12 = .ok (.istore_n 1, 1) := by decide +kernel
theorem dX5_tear_13 : decode cX5_tear 13 = .ok (.aload_n 0, 1) := by decide +kernel
theorem dX5_tear_14 : decode cX5_tear 14 = .ok (.iconst 0, 1) := by decide +kernel
theorem dX5_tear_15 : decode cX5_tear 15 = .ok (.putfield 210, 3) := by decide +kernel
theorem dX5_tear_18 : decode cX5_tear 18 = .ok (.iload_n 1, 1) := by decide +kernel
theorem dX5_tear_19 : decode cX5_tear 19 = .ok (.ireturn, 1) := by decide +kernel
set_option maxRecDepth 20000 in
theorem ggX5_count_X5_sums : GoodIn wsX5_count wsX5_sums := goodIn_r _ [8, 1, 9, 10, 11, 7, 12, 18, 19, 20, 21, 22, 23, 24, 25, 26, 27, 28, 29, 30, 31, 32] (by decide +kernel) (by decide +kernel)
set_option maxRecDepth 20000 in
theorem gX5_count_X5_sums : GoodIn wsX5_count (wsV RX5 63 RX5 yX5_sums wsX5_sums) := goodIn_app (goodIn_of _ (by decide +kernel)) ggX5_count_X5_sums
set_option maxRecDepth 20000 in
theorem ggX5_count_X5_finds : GoodIn wsX5_count wsX5_finds := goodIn_r _ [16, 17, 3, 18, 19, 20, 21, 22, 23, 24, 25, 26, 27, 28, 29, 30, 31, 32] (by decide +kernel) (by decide +kernel)
set_option maxRecDepth 20000 in
theorem gX5_count_X5_finds : GoodIn wsX5_count (wsV RX5 37 RX5 yX5_finds wsX5_finds) := goodIn_app (goodIn_of _ (by decide +kernel)) ggX5_count_X5_finds
theorem dX5_count_0 : decode cX5_count 0 = .ok (.iload_n 1, 1) := by decide +kernel
theorem dX5_count_1 : decode cX5_count 1 = .ok (.tableswitch 62 0 3 #[31, 38, 43, 56], 31) := by decide +kernel
theorem dX5_count_32 : decode cX5_count 32 = .ok (.aload_n 0, 1) := by decide +kernel
theorem dX5_count_33 : decode cX5_count 33 = .ok (.getfield 9, 3) := by decide +kernel
theorem dX5_count_36 : decode cX5_count 36 = .ok (.iconst 4, 1) := by decide +kernel
theorem dX5_count_37 : decode cX5_count 37 = .ok (.iaload, 1) := by decide +kernel
theorem dX5_count_38 : decode cX5_count 38 = .ok (.ireturn, 1) := by decide +kernel
theorem dX5_count_39 : decode cX5_count 39 = .ok (.aload_n 0, 1) := by decide +kernel
theorem dX5_count_40 : decode cX5_count 40 = .ok (.getfield 137, 3) := by decide +kernel
theorem dX5_count_43 : decode cX5_count 43 = .ok (.ireturn, 1) := by decide +kernel
theorem dX5_count_44 : decode cX5_count 44 = .ok (.aload_n 0, 1) := by decide +kernel
theorem dX5_count_45 : decode cX5_count 45 = .ok (.getfield 9, 3) := by decide +kernel
theorem dX5_count_48 : decode cX5_count 48 = .ok (.iconst 4, 1) := by decide +kernel
theorem dX5_count_49 : decode cX5_count 49 = .ok (.iaload, 1) := by decide +kernel
theorem dX5_count_50 : decode cX5_count 50 = .ok (.aload_n 0, 1) := by decide +kernel
theorem dX5_count_51 : decode cX5_count 51 = .ok (.iconst 1, 1) := by decide +kernel
theorem dX5_count_52 : decode cX5_count 52 = .ok (.invokevirtual 63, 3) := by decide +kernel
theorem dX5_count_55 : decode cX5_count 55 = .ok (.isub, 1) := by decide +kernel
theorem dX5_count_56 : decode cX5_count 56 = .ok (.ireturn, 1) := by decide +kernel
theorem dX5_count_57 : decode cX5_count 57 = .ok (.aload_n 0, 1) := by decide +kernel
theorem dX5_count_58 : decode cX5_count 58 = .ok (.iconst 2, 1) := by decide +kernel
theorem dX5_count_59 : decode cX5_count 59 = .ok (.invokevirtual 63, 3) := by decide +kernel
theorem dX5_count_62 : decode cX5_count 62 = .ok (.ireturn, 1) := by decide +kernel
theorem dX5_count_63 : decode cX5_count 63 = .ok (.aload_n 0, 1) := by decide +kernel
theorem dX5_count_64 : decode cX5_count 64 = .ok (.ldc 35, 2) := by decide +kernel
theorem dX5_count_66 : decode cX5_count 66 = .ok (.invokevirtual 37, 3) := by decide +kernel
theorem dX5_count_69 : decode cX5_count 69 = .ok (.ireturn, 1) := by decide +kernel
set_option maxRecDepth 20000 in
theorem ggX5_status_X5_in : GoodIn wsX5_status wsX5_in := goodIn_r _ [6] (by decide +kernel) (by decide +kernel)
set_option maxRecDepth 20000 in
theorem gX5_status_X5_in : GoodIn wsX5_status (va_wsS RX5 41 yX5_in wsX5_in) := goodIn_app (goodIn_of _ (by decide +kernel)) ggX5_status_X5_in
set_option maxRecDepth 20000 in
theorem ggX5_status_X5_finds : GoodIn wsX5_status wsX5_finds := goodIn_r _ [10, 2, 1, 11, 12, 13, 14, 15, 16, 17, 18, 19, 20, 21, 22, 23, 24, 25] (by decide +kernel) (by decide +kernel)
set_option maxRecDepth 20000 in
theorem gX5_status_X5_finds : GoodIn wsX5_status (wsV RX5 37 RX5 yX5_finds wsX5_finds) := goodIn_app (goodIn_of _ (by decide +kernel)) ggX5_status_X5_finds
theorem dX5_status_0 : decode cX5_status 0 = .ok (.iload_n 1, 1) := by decide +kernel
theorem dX5_status_1 : decode cX5_status 1 = .ok (.i2l, 1) := by decide +kernel
theorem dX5_status_2 : decode cX5_status 2 = .ok (.iconst (-1), 1) := by decide +kernel
theorem dX5_status_3 : decode cX5_status 3 = .ok (.bipush 6, 2) := by decide +kernel
theorem dX5_status_5 : decode cX5_status 5 = .ok (.invokestatic 41, 3) := by decide +kernel
theorem dX5_status_8 : decode cX5_status 8 = .ok (.ifCond .ne 10, 3) := by decide +kernel
theorem dX5_status_11 : decode cX5_status 11 = .ok (.aload_n 0, 1) := by decide +kernel
theorem dX5_status_12 : decode cX5_status 12 = .ok (.ldc 35, 2) := by decide +kernel
theorem dX5_status_14 : decode cX5_status 14 = .ok (.invokevirtual 37, 3) := by decide +kernel
theorem dX5_status_17 : decode cX5_status 17 = .ok (.ireturn, 1) := by decide +kernel
theorem dX5_status_18 : decode cX5_status 18 = .ok (.iconst 0, 1) := by decide +kernel
theorem dX5_status_19 : decode cX5_status 19 = .ok (.istore_n 2, 1) := by decide +kernel
theorem dX5_status_20 : decode cX5_status 20 = .ok (.iconst 0, 1) := by decide +kernel
theorem dX5_status_21 : decode cX5_status 21 = .ok (.istore_n 3, 1) := by decide +kernel
theorem dX5_status_22 : decode cX5_status 22 = .ok (.iload_n 3, 1) := by decide +kernel
theorem dX5_status_23 : decode cX5_status 23 = .ok (.bipush 7, 2) := by decide +kernel
theorem dX5_status_25 : decode cX5_status 25 = .ok (.if_icmp .ge 31, 3) := by decide +kernel
theorem dX5_status_28 : decode cX5_status 28 = .ok (.iload_n 2, 1) := by decide +kernel
theorem dX5_status_29 : decode cX5_status 29 = .ok (.iload_n 1, 1) := by decide +kernel
theorem dX5_status_30 : decode cX5_status 30 = .ok (.ifCond .lt 8, 3) := by decide +kernel
theorem dX5_status_33 : decode cX5_status 33 = .ok (.iload_n 1, 1) := by decide +kernel
theorem dX5_status_34 : decode cX5_status 34 = .ok (.iload_n 3, 1) := by decide +kernel
theorem dX5_status_35 : decode cX5_status 35 = .ok (.if_icmp .ne 12, 3) := by decide +kernel
theorem dX5_status_38 : decode cX5_status 38 = .ok (.aload_n 0, 1) := by decide +kernel
theorem dX5_status_39 : decode cX5_status 39 = .ok (.getfield 19, 3) := by decide +kernel
theorem dX5_status_42 : decode cX5_status 42 = .ok (.iload_n 3, 1) := by decide +kernel
theorem dX5_status_43 : decode cX5_status 43 = .ok (.iaload, 1) := by decide +kernel
theorem dX5_status_44 : decode cX5_status 44 = .ok (.goto 4, 3) := by decide +kernel
theorem dX5_status_47 : decode cX5_status 47 = .ok (.iconst 0, 1) := by decide +kernel
theorem dX5_status_48 : decode cX5_status 48 = .ok (.iadd, 1) := by decide +kernel
theorem dX5_status_49 : decode cX5_status 49 = .ok (.istore_n 2, 1) := by decide +kernel
theorem dX5_status_50 : decode cX5_status 50 = .ok (.iinc 3 1, 3) := by decide +kernel
theorem dX5_status_53 : decode cX5_status 53 = .ok (.goto (-31), 3) := by decide +kernel
theorem dX5_status_56 : decode cX5_status 56 = .ok (.iload_n 2, 1) := by decide +kernel
theorem dX5_status_57 : decode cX5_status 57 = .ok (.ireturn, 1) := by decide +kernel
theorem dJ6_bitCount_0f7a4_0 : decode cJ6_bitCount_0f7a4 0 = .ok (.iload_n 0, 1) := by decide +kernel
theorem dJ6_bitCount_0f7a4_1 : decode cJ6_bitCount_0f7a4 1 = .ok (.iload_n 0, 1) := by decide +kernel
theorem dJ6_bitCount_0f7a4_2 : decode cJ6_bitCount_0f7a4 2 = .ok (.iconst 1, 1) := by decide +kernel
theorem dJ6_bitCount_0f7a4_3 : decode cJ6_bitCount_0f7a4 3 = .ok (.iushr, 1) := by decide +kernel
theorem dJ6_bitCount_0f7a4_4 : decode cJ6_bitCount_0f7a4 4 = .ok (.ldc_w 265, 3) := by decide +kernel
theorem dJ6_bitCount_0f7a4_7 : decode cJ6_bitCount_0f7a4 7 = .ok (.iand, 1) := by decide +kernel
theorem dJ6_bitCount_0f7a4_8 : decode cJ6_bitCount_0f7a4 8 = .ok (.isub, 1) := by decide +kernel
theorem dJ6_bitCount_0f7a4_9 : decode cJ6_bitCount_0f7a4 9 = .ok (.istore_n 0, 1) := by decide +kernel
theorem dJ6_bitCount_0f7a4_10 : decode cJ6_bitCount_0f7a4 10 = .ok (.iload_n 0, 1) := by decide +kernel
theorem dJ6_bitCount_0f7a4_11 : decode cJ6_bitCount_0f7a4 11 = .ok (.ldc_w 266, 3) := by decide +kernel
theorem dJ6_bitCount_0f7a4_14 : decode cJ6_bitCount_0f7a4 14 = .ok (.iand, 1) := by decide +kernel
theorem dJ6_bitCount_0f7a4_15 : decode cJ6_bitCount_0f7a4 15 = .ok (.iload_n 0, 1) := by decide +kernel
theorem dJ6_bitCount_0f7a4_16 : decode cJ6_bitCount_0f7a4 16 = .ok (.iconst 2, 1) := by decide +kernel
theorem dJ6_bitCount_0f7a4_17 : decode cJ6_bitCount_0f7a4 17 = .ok (.iushr, 1) := by decide +kernel
theorem dJ6_bitCount_0f7a4_18 : decode cJ6_bitCount_0f7a4 18 = .ok (.ldc_w 266, 3) := by decide +kernel
theorem dJ6_bitCount_0f7a4_21 : decode cJ6_bitCount_0f7a4 21 = .ok (.iand, 1) := by decide +kernel
theorem dJ6_bitCount_0f7a4_22 : decode cJ6_bitCount_0f7a4 22 = .ok (.iadd, 1) := by decide +kernel
theorem dJ6_bitCount_0f7a4_23 : decode cJ6_bitCount_0f7a4 23 = .ok (.istore_n 0, 1) := by decide +kernel
theorem dJ6_bitCount_0f7a4_24 : decode cJ6_bitCount_0f7a4 24 = .ok (.iload_n 0, 1) := by decide +kernel
theorem dJ6_bitCount_0f7a4_25 : decode cJ6_bitCount_0f7a4 25 = .ok (.iload_n 0, 1) := by decide +kernel
theorem dJ6_bitCount_0f7a4_26 : decode cJ6_bitCount_0f7a4 26 = .ok (.iconst 4, 1) := by decide +kernel
theorem dJ6_bitCount_0f7a4_27 : decode cJ6_bitCount_0f7a4 27 = .ok (.iushr, 1) := by decide +kernel
theorem dJ6_bitCount_0f7a4_28 : decode cJ6_bitCount_0f7a4 28 = .ok (.iadd, 1) := by decide +kernel
theorem dJ6_bitCount_0f7a4_29 : decode cJ6_bitCount_0f7a4 29 = .ok (.ldc_w 267, 3) := by decide +kernel
theorem dJ6_bitCount_0f7a4_32 : decode cJ6_bitCount_0f7a4 32 = .ok (.iand, 1) := by decide +kernel
theorem dJ6_bitCount_0f7a4_33 : decode cJ6_bitCount_0f7a4 33 = .ok (.istore_n 0, 1) := by decide +kernel
theorem dJ6_bitCount_0f7a4_34 : decode cJ6_bitCount_0f7a4 34 = .ok (.iload_n 0, 1) := by decide +kernel
theorem dJ6_bitCount_0f7a4_35 : decode cJ6_bitCount_0f7a4 35 = .ok (.iload_n 0, 1) := by decide +kernel
theorem dJ6_bitCount_0f7a4_36 : decode cJ6_bitCount_0f7a4 36 = .ok (.bipush 8, 2) := by decide +kernel
theorem dJ6_bitCount_0f7a4_38 : decode cJ6_bitCount_0f7a4 38 = .ok (.iushr, 1) := by decide +kernel
theorem dJ6_bitCount_0f7a4_39 : decode cJ6_bitCount_0f7a4 39 = .ok (.iadd, 1) := by decide +kernel
theorem dJ6_bitCount_0f7a4_40 : decode cJ6_bitCount_0f7a4 40 = .ok (.istore_n 0, 1) := by decide +kernel
theorem dJ6_bitCount_0f7a4_41 : decode cJ6_bitCount_0f7a4 41 = .ok (.iload_n 0, 1) := by decide +kernel
theorem dJ6_bitCount_0f7a4_42 : decode cJ6_bitCount_0f7a4 42 = .ok (.iload_n 0, 1) := by decide +kernel
theorem dJ6_bitCount_0f7a4_43 : decode cJ6_bitCount_0f7a4 43 = .ok (.bipush 16, 2) := by decide +kernel
theorem dJ6_bitCount_0f7a4_45 : decode cJ6_bitCount_0f7a4 45 = .ok (.iushr, 1) := by decide +kernel
theorem dJ6_bitCount_0f7a4_46 : decode cJ6_bitCount_0f7a4 46 = .ok (.iadd, 1) := by decide +kernel
theorem dJ6_bitCount_0f7a4_47 : decode cJ6_bitCount_0f7a4 47 = .ok (.istore_n 0, 1) := by decide +kernel
theorem dJ6_bitCount_0f7a4_48 : decode cJ6_bitCount_0f7a4 48 = .ok (.iload_n 0, 1) := by decide +kernel
theorem dJ6_bitCount_0f7a4_49 : decode cJ6_bitCount_0f7a4 49 = .ok (.bipush 63, 2) := by decide +kernel
theorem dJ6_bitCount_0f7a4_51 : decode cJ6_bitCount_0f7a4 51 = .ok (.iand, 1) := by decide +kernel
theorem dJ6_bitCount_0f7a4_52 : decode cJ6_bitCount_0f7a4 52 = .ok (.ireturn, 1) := by decide +kernel
theorem dJ9_max_7cf53_0 : decode cJ9_max_7cf53 0 = .ok (.iload_n 0, 1) := by decide +kernel
theorem dJ9_max_7cf53_1 : decode cJ9_max_7cf53 1 = .ok (.iload_n 1, 1) := by decide +kernel
theorem dJ9_max_7cf53_2 : decode cJ9_max_7cf53 2 = .ok (.if_icmp .lt 7, 3) := by decide +kernel
theorem dJ9_max_7cf53_5 : decode cJ9_max_7cf53 5 = .ok (.iload_n 0, 1) := by decide +kernel
theorem dJ9_max_7cf53_6 : decode cJ9_max_7cf53 6 = .ok (.goto 4, 3) := by decide +kernel
theorem dJ9_max_7cf53_9 : decode cJ9_max_7cf53 9 = .ok (.iload_n 1, 1) := by decide +kernel
theorem dJ9_max_7cf53_10 : decode cJ9_max_7cf53 10 = .ok (.ireturn, 1) := by decide +kernel
theorem dJ9_min_7cf53_0 : decode cJ9_min_7cf53 0 = .ok (.iload_n 0, 1) := by decide +kernel
theorem dJ9_min_7cf53_1 : decode cJ9_min_7cf53 1 = .ok (.iload_n 1, 1) := by decide +kernel
theorem dJ9_min_7cf53_2 : decode cJ9_min_7cf53 2 = .ok (.if_icmp .gt 7, 3) := by decide +kernel
theorem dJ9_min_7cf53_5 : decode cJ9_min_7cf53 5 = .ok (.iload_n 0, 1) := by decide +kernel
theorem dJ9_min_7cf53_6 : decode cJ9_min_7cf53 6 = .ok (.goto 4, 3) := by decide +kernel
theorem dJ9_min_7cf53_9 : decode cJ9_min_7cf53 9 = .ok (.iload_n 1, 1) := by decide +kernel
theorem dJ9_min_7cf53_10 : decode cJ9_min_7cf53 10 = .ok (.ireturn, 1) := by decide +kernel
set_option maxRecDepth 20000 in
theorem ggJ0_length_8abf5_J0_coder_7d493 : GoodIn wsJ0_length_8abf5 wsJ0_coder_7d493 := goodIn_r _ [6, 7, 8] (by decide +kernel) (by decide +kernel)
set_option maxRecDepth 20000 in
theorem gJ0_length_8abf5_J0_coder_7d493 : GoodIn wsJ0_length_8abf5 (wsV RJ0 335 RJ0 yJ0_coder_7d493 wsJ0_coder_7d493) := goodIn_app (goodIn_of _ (by decide +kernel)) ggJ0_length_8abf5_J0_coder_7d493
theorem dJ0_length_8abf5_0 : decode cJ0_length_8abf5 0 = .ok (.aload_n 0, 1) := by decide +kernel
theorem dJ0_length_8abf5_1 : decode cJ0_length_8abf5 1 = .ok (.getfield 9, 3) := by decide +kernel
theorem dJ0_length_8abf5_4 : decode cJ0_length_8abf5 4 = .ok (.arraylength, 1) := by decide +kernel
theorem dJ0_length_8abf5_5 : decode cJ0_length_8abf5 5 = .ok (.aload_n 0, 1) := by decide +kernel
theorem dJ0_length_8abf5_6 : decode cJ0_length_8abf5 6 = .ok (.invokevirtual 335, 3) := by decide +kernel
theorem dJ0_length_8abf5_9 : decode cJ0_length_8abf5 9 = .ok (.ishr, 1) := by decide +kernel
theorem dJ0_length_8abf5_10 : decode cJ0_length_8abf5 10 = .ok (.ireturn, 1) := by decide +kernel
set_option maxRecDepth 20000 in
theorem ggJ0_charAt_5068e_J0_isLatin1_aae02 : GoodIn wsJ0_charAt_5068e wsJ0_isLatin1_aae02 := goodIn_r _ [6, 7, 8] (by decide +kernel) (by decide +kernel)
set_option maxRecDepth 20000 in
theorem gJ0_charAt_5068e_J0_isLatin1_aae02 : GoodIn wsJ0_charAt_5068e (wsV RJ0 492 RJ0 yJ0_isLatin1_aae02 wsJ0_isLatin1_aae02) := goodIn_app (goodIn_of _ (by decide +kernel)) ggJ0_charAt_5068e_J0_isLatin1_aae02
set_option maxRecDepth 20000 in
theorem ggJ0_charAt_5068e_J1_charAt_3b067 : GoodIn wsJ0_charAt_5068e wsJ1_charAt_3b067 := goodIn_r _ [12, 13, 14, 5, 15, 16, 17, 18, 19, 20] (by decide +kernel) (by decide +kernel)
set_option maxRecDepth 20000 in
theorem gJ0_charAt_5068e_J1_charAt_3b067 : GoodIn wsJ0_charAt_5068e (va_wsS RJ0 495 yJ1_charAt_3b067 wsJ1_charAt_3b067) := goodIn_app (goodIn_of _ (by decide +kernel)) ggJ0_charAt_5068e_J1_charAt_3b067
set_option maxRecDepth 20000 in
theorem ggJ0_charAt_5068e_J2_charAt_3b067 : GoodIn wsJ0_charAt_5068e wsJ2_charAt_3b067 := goodIn_r _ [24, 25, 26, 23, 27, 28, 29, 30, 31, 14, 5, 15, 16, 17, 18, 19, 20, 32, 33, 34, 35, 36, 37] (by decide +kernel) (by decide +kernel)
set_option maxRecDepth 20000 in
theorem gJ0_charAt_5068e_J2_charAt_3b067 : GoodIn wsJ0_charAt_5068e (va_wsS RJ0 498 yJ2_charAt_3b067 wsJ2_charAt_3b067) := goodIn_app (goodIn_of _ (by decide +kernel)) ggJ0_charAt_5068e_J2_charAt_3b067
theorem dJ0_charAt_5068e_0 : decode cJ0_charAt_5068e 0 = .ok (.aload_n 0, 1) := by decide +kernel
theorem dJ0_charAt_5068e_1 : decode cJ0_charAt_5068e 1 = .ok (.invokevirtual 492, 3) := by decide +kernel
theorem dJ0_charAt_5068e_4 : decode cJ0_charAt_5068e 4 = .ok (.ifCond .eq 12, 3) := by decide +kernel
theorem dJ0_charAt_5068e_7 : decode cJ0_charAt_5068e 7 = .ok (.aload_n 0, 1) := by decide +kernel
theorem dJ0_charAt_5068e_8 : decode cJ0_charAt_5068e 8 = .ok (.getfield 9, 3) := by decide +kernel
theorem dJ0_charAt_5068e_11 : decode cJ0_charAt_5068e 11 = .ok (.iload_n 1, 1) := by decide +kernel
theorem dJ0_charAt_5068e_12 : decode cJ0_charAt_5068e 12 = .ok (.invokestatic 495, 3) := by decide +kernel
theorem dJ0_charAt_5068e_15 : decode cJ0_charAt_5068e 15 = .ok (.ireturn, 1) := by decide +kernel
theorem dJ0_charAt_5068e_16 : decode cJ0_charAt_5068e 16 = .ok (.aload_n 0, 1) := by decide +kernel
theorem dJ0_charAt_5068e_17 : decode cJ0_charAt_5068e 17 = .ok (.getfield 9, 3) := by decide +kernel
theorem dJ0_charAt_5068e_20 : decode cJ0_charAt_5068e 20 = .ok (.iload_n 1, 1) := by decide +kernel
theorem dJ0_charAt_5068e_21 : decode cJ0_charAt_5068e 21 = .ok (.invokestatic 498, 3) := by decide +kernel
theorem dJ0_charAt_5068e_24 : decode cJ0_charAt_5068e 24 = .ok (.ireturn, 1) := by decide +kernel
theorem dJ0_coder_7d493_0 : decode cJ0_coder_7d493 0 = .ok (.getstatic 38, 3) := by decide +kernel
theorem dJ0_coder_7d493_3 : decode cJ0_coder_7d493 3 = .ok (.ifCond .eq 10, 3) := by decide +kernel
theorem dJ0_coder_7d493_6 : decode cJ0_coder_7d493 6 = .ok (.aload_n 0, 1) := by decide +kernel
theorem dJ0_coder_7d493_7 : decode cJ0_coder_7d493 7 = .ok (.getfield 15, 3) := by decide +kernel
theorem dJ0_coder_7d493_10 : decode cJ0_coder_7d493 10 = .ok (.goto 4, 3) := by decide +kernel
theorem dJ0_coder_7d493_13 : decode cJ0_coder_7d493 13 = .ok (.iconst 1, 1) := by decide +kernel
theorem dJ0_coder_7d493_14 : decode cJ0_coder_7d493 14 = .ok (.ireturn, 1) := by decide +kernel
theorem dJ0_isLatin1_aae02_0 : decode cJ0_isLatin1_aae02 0 = .ok (.getstatic 38, 3) := by decide +kernel
theorem dJ0_isLatin1_aae02_3 : decode cJ0_isLatin1_aae02 3 = .ok (.ifCond .eq 14, 3) := by decide +kernel
theorem dJ0_isLatin1_aae02_6 : decode cJ0_isLatin1_aae02 6 = .ok (.aload_n 0, 1) := by decide +kernel
theorem dJ0_isLatin1_aae02_7 : decode cJ0_isLatin1_aae02 7 = .ok (.getfield 15, 3) := by decide +kernel
theorem dJ0_isLatin1_aae02_10 : decode cJ0_isLatin1_aae02 10 = .ok (.ifCond .ne 7, 3) := by decide +kernel
theorem dJ0_isLatin1_aae02_13 : decode cJ0_isLatin1_aae02 13 = .ok (.iconst 1, 1) := by decide +kernel
theorem dJ0_isLatin1_aae02_14 : decode cJ0_isLatin1_aae02 14 = .ok (.goto 4, 3) := by decide +kernel
theorem dJ0_isLatin1_aae02_17 : decode cJ0_isLatin1_aae02 17 = .ok (.iconst 0, 1) := by decide +kernel
theorem dJ0_isLatin1_aae02_18 : decode cJ0_isLatin1_aae02 18 = .ok (.ireturn, 1) := by decide +kernel
set_option maxRecDepth 20000 in
theorem ggJ0_checkIndex_df160_J3_checkIndex_8e157 : GoodIn wsJ0_checkIndex_df160 wsJ3_checkIndex_8e157 := goodIn_r _ [5] (by decide +kernel) (by decide +kernel)
set_option maxRecDepth 20000 in
theorem gJ0_checkIndex_df160_J3_checkIndex_8e157 : GoodIn wsJ0_checkIndex_df160 (va_wsS RJ0 1059 yJ3_checkIndex_8e157 wsJ3_checkIndex_8e157) := goodIn_app (goodIn_of _ (by decide +kernel)) ggJ0_checkIndex_df160_J3_checkIndex_8e157
theorem dJ0_checkIndex_df160_0 : decode cJ0_checkIndex_df160 0 = .ok (.iload_n 0, 1) := by decide +kernel
theorem dJ0_checkIndex_df160_1 : decode cJ0_checkIndex_df160 1 = .ok (.iload_n 1, 1) := by decide +kernel
theorem dJ0_checkIndex_df160_2 : decode cJ0_checkIndex_df160 2 = .ok (.getstatic 1053, 3) := by decide +kernel
theorem dJ0_checkIndex_df160_5 : decode cJ0_checkIndex_df160 5 = .ok (.invokestatic 1059, 3) := by decide +kernel
theorem dJ0_checkIndex_df160_8 : decode cJ0_checkIndex_df160 8 = .ok (.pop, 1) := by decide +kernel
theorem dJ0_checkIndex_df160_9 : decode cJ0_checkIndex_df160 9 = .ok (.return_, 1) := by decide +kernel
set_option maxRecDepth 20000 in
theorem ggJ1_charAt_3b067_J0_checkIndex_df160 : GoodIn wsJ1_charAt_3b067 wsJ0_checkIndex_df160 := goodIn_r _ [4, 5, 6, 7, 8, 9] (by decide +kernel) (by decide +kernel)
set_option maxRecDepth 20000 in
theorem gJ1_charAt_3b067_J0_checkIndex_df160 : GoodIn wsJ1_charAt_3b067 (va_wsS RJ1 9 yJ0_checkIndex_df160 wsJ0_checkIndex_df160) := goodIn_app (goodIn_of _ (by decide +kernel)) ggJ1_charAt_3b067_J0_checkIndex_df160
theorem dJ1_charAt_3b067_0 : decode cJ1_charAt_3b067 0 = .ok (.iload_n 1, 1) := by decide +kernel
theorem dJ1_charAt_3b067_1 : decode cJ1_charAt_3b067 1 = .ok (.aload_n 0, 1) := by decide +kernel
theorem dJ1_charAt_3b067_2 : decode cJ1_charAt_3b067 2 = .ok (.arraylength, 1) := by decide +kernel
theorem dJ1_charAt_3b067_3 : decode cJ1_charAt_3b067 3 = .ok (.invokestatic 9, 3) := by decide +kernel
theorem dJ1_charAt_3b067_6 : decode cJ1_charAt_3b067 6 = .ok (.aload_n 0, 1) := by decide +kernel
theorem dJ1_charAt_3b067_7 : decode cJ1_charAt_3b067 7 = .ok (.iload_n 1, 1) := by decide +kernel
theorem dJ1_charAt_3b067_8 : decode cJ1_charAt_3b067 8 = .ok (.baload, 1) := by decide +kernel
theorem dJ1_charAt_3b067_9 : decode cJ1_charAt_3b067 9 = .ok (.sipush 255, 3) := by decide +kernel
theorem dJ1_charAt_3b067_12 : decode cJ1_charAt_3b067 12 = .ok (.iand, 1) := by decide +kernel
theorem dJ1_charAt_3b067_13 : decode cJ1_charAt_3b067 13 = .ok (.i2c, 1) := by decide +kernel
theorem dJ1_charAt_3b067_14 : decode cJ1_charAt_3b067 14 = .ok (.ireturn, 1) := by decide +kernel
set_option maxRecDepth 20000 in
theorem ggJ2_getChar_3b067_J2_length_9d52b : GoodIn wsJ2_getChar_3b067 wsJ2_length_9d52b := goodIn_r _ [7] (by decide +kernel) (by decide +kernel)
set_option maxRecDepth 20000 in
theorem gJ2_getChar_3b067_J2_length_9d52b : GoodIn wsJ2_getChar_3b067 (va_wsS RJ2 48 yJ2_length_9d52b wsJ2_length_9d52b) := goodIn_app (goodIn_of _ (by decide +kernel)) ggJ2_getChar_3b067_J2_length_9d52b
theorem dJ2_getChar_3b067_0 : decode cJ2_getChar_3b067 0 = .ok (.getstatic 44, 3) := by decide +kernel
theorem dJ2_getChar_3b067_3 : decode cJ2_getChar_3b067 3 = .ok (.ifCond .ne 25, 3) := by decide +kernel
theorem dJ2_getChar_3b067_6 : decode cJ2_getChar_3b067 6 = .ok (.iload_n 1, 1) := by decide +kernel
theorem dJ2_getChar_3b067_7 : decode cJ2_getChar_3b067 7 = .ok (.ifCond .lt 11, 3) := by decide +kernel
theorem dJ2_getChar_3b067_10 : decode cJ2_getChar_3b067 10 = .ok (.iload_n 1, 1) := by decide +kernel
theorem dJ2_getChar_3b067_11 : decode cJ2_getChar_3b067 11 = .ok (.aload_n 0, 1) := by decide +kernel
theorem dJ2_getChar_3b067_12 : decode cJ2_getChar_3b067 12 = .ok (.invokestatic 48, 3) := by decide +kernel
theorem dJ2_getChar_3b067_15 : decode cJ2_getChar_3b067 15 = .ok (.if_icmp .lt 13, 3) := by decide +kernel
theorem dJ2_getChar_3b067_18 : decode cJ2_getChar_3b067 18 = .ok (.new 52, 3) := by decide +kernel
theorem dJ2_getChar_3b067_21 : decode cJ2_getChar_3b067 21 = .ok (.dup, 1) := by decide +kernel
theorem dJ2_getChar_3b067_22 : decode cJ2_getChar_3b067 22 = .ok (.ldc 54, 2) := by decide +kernel
theorem dJ2_getChar_3b067_24 : decode cJ2_getChar_3b067 24 = .ok (.invokespecial 56, 3) := by decide +kernel
theorem dJ2_getChar_3b067_27 : decode cJ2_getChar_3b067 27 = .ok (.athrow, 1) := by decide +kernel
theorem dJ2_getChar_3b067_28 : decode cJ2_getChar_3b067 28 = .ok (.iload_n 1, 1) := by decide +kernel
theorem dJ2_getChar_3b067_29 : decode cJ2_getChar_3b067 29 = .ok (.iconst 1, 1) := by decide +kernel
theorem dJ2_getChar_3b067_30 : decode cJ2_getChar_3b067 30 = .ok (.ishl, 1) := by decide +kernel
theorem dJ2_getChar_3b067_31 : decode cJ2_getChar_3b067 31 = .ok (.istore_n 1, 1) := by decide +kernel
theorem dJ2_getChar_3b067_32 : decode cJ2_getChar_3b067 32 = .ok (.aload_n 0, 1) := by decide +kernel
theorem dJ2_getChar_3b067_33 : decode cJ2_getChar_3b067 33 = .ok (.iload_n 1, 1) := by decide +kernel
theorem dJ2_getChar_3b067_34 : decode cJ2_getChar_3b067 34 = .ok (.iinc 1 1, 3) := by decide +kernel
theorem dJ2_getChar_3b067_37 : decode cJ2_getChar_3b067 37 = .ok (.baload, 1) := by decide +kernel
theorem dJ2_getChar_3b067_38 : decode cJ2_getChar_3b067 38 = .ok (.sipush 255, 3) := by decide +kernel
theorem dJ2_getChar_3b067_41 : decode cJ2_getChar_3b067 41 = .ok (.iand, 1) := by decide +kernel
theorem dJ2_getChar_3b067_42 : decode cJ2_getChar_3b067 42 = .ok (.getstatic 59, 3) := by decide +kernel
theorem dJ2_getChar_3b067_45 : decode cJ2_getChar_3b067 45 = .ok (.ishl, 1) := by decide +kernel
theorem dJ2_getChar_3b067_46 : decode cJ2_getChar_3b067 46 = .ok (.aload_n 0, 1) := by decide +kernel
theorem dJ2_getChar_3b067_47 : decode cJ2_getChar_3b067 47 = .ok (.iload_n 1, 1) := by decide +kernel
theorem dJ2_getChar_3b067_48 : decode cJ2_getChar_3b067 48 = .ok (.baload, 1) := by decide +kernel
theorem dJ2_getChar_3b067_49 : decode cJ2_getChar_3b067 49 = .ok (.sipush 255, 3) := by decide +kernel
theorem dJ2_getChar_3b067_52 : decode cJ2_getChar_3b067 52 = .ok (.iand, 1) := by decide +kernel
theorem dJ2_getChar_3b067_53 : decode cJ2_getChar_3b067 53 = .ok (.getstatic 63, 3) := by decide +kernel
theorem dJ2_getChar_3b067_56 : decode cJ2_getChar_3b067 56 = .ok (.ishl, 1) := by decide +kernel
theorem dJ2_getChar_3b067_57 : decode cJ2_getChar_3b067 57 = .ok (.ior, 1) := by decide +kernel
theorem dJ2_getChar_3b067_58 : decode cJ2_getChar_3b067 58 = .ok (.i2c, 1) := by decide +kernel
theorem dJ2_getChar_3b067_59 : decode cJ2_getChar_3b067 59 = .ok (.ireturn, 1) := by decide +kernel
theorem dJ2_length_9d52b_0 : decode cJ2_length_9d52b 0 = .ok (.aload_n 0, 1) := by decide +kernel
theorem dJ2_length_9d52b_1 : decode cJ2_length_9d52b 1 = .ok (.arraylength, 1) := by decide +kernel
theorem dJ2_length_9d52b_2 : decode cJ2_length_9d52b 2 = .ok (.iconst 1, 1) := by decide +kernel
theorem dJ2_length_9d52b_3 : decode cJ2_length_9d52b 3 = .ok (.ishr, 1) := by decide +kernel
theorem dJ2_length_9d52b_4 : decode cJ2_length_9d52b 4 = .ok (.ireturn, 1) := by decide +kernel
set_option maxRecDepth 20000 in
theorem ggJ2_charAt_3b067_J2_checkIndex_2214a : GoodIn wsJ2_charAt_3b067 wsJ2_checkIndex_2214a := goodIn_r _ [4, 5, 6, 3, 7, 8, 9, 10, 11, 12, 13, 14, 15, 16] (by decide +kernel) (by decide +kernel)
set_option maxRecDepth 20000 in
theorem gJ2_charAt_3b067_J2_checkIndex_2214a : GoodIn wsJ2_charAt_3b067 (va_wsS RJ2 67 yJ2_checkIndex_2214a wsJ2_checkIndex_2214a) := goodIn_app (goodIn_of _ (by decide +kernel)) ggJ2_charAt_3b067_J2_checkIndex_2214a
set_option maxRecDepth 20000 in
theorem ggJ2_charAt_3b067_J2_getChar_3b067 : GoodIn wsJ2_charAt_3b067 wsJ2_getChar_3b067 := goodIn_r _ [19, 20, 21, 22, 5, 6, 3, 7] (by decide +kernel) (by decide +kernel)
set_option maxRecDepth 20000 in
theorem gJ2_charAt_3b067_J2_getChar_3b067 : GoodIn wsJ2_charAt_3b067 (va_wsS RJ2 71 yJ2_getChar_3b067 wsJ2_getChar_3b067) := goodIn_app (goodIn_of _ (by decide +kernel)) ggJ2_charAt_3b067_J2_getChar_3b067
theorem dJ2_charAt_3b067_0 : decode cJ2_charAt_3b067 0 = .ok (.iload_n 1, 1) := by decide +kernel
theorem dJ2_charAt_3b067_1 : decode cJ2_charAt_3b067 1 = .ok (.aload_n 0, 1) := by decide +kernel
theorem dJ2_charAt_3b067_2 : decode cJ2_charAt_3b067 2 = .ok (.invokestatic 67, 3) := by decide +kernel
theorem dJ2_charAt_3b067_5 : decode cJ2_charAt_3b067 5 = .ok (.aload_n 0, 1) := by decide +kernel
theorem dJ2_charAt_3b067_6 : decode cJ2_charAt_3b067 6 = .ok (.iload_n 1, 1) := by decide +kernel
theorem dJ2_charAt_3b067_7 : decode cJ2_charAt_3b067 7 = .ok (.invokestatic 71, 3) := by decide +kernel
theorem dJ2_charAt_3b067_10 : decode cJ2_charAt_3b067 10 = .ok (.ireturn, 1) := by decide +kernel
set_option maxRecDepth 20000 in
theorem ggJ2_checkIndex_2214a_J2_length_9d52b : GoodIn wsJ2_checkIndex_2214a wsJ2_length_9d52b := goodIn_r _ [4] (by decide +kernel) (by decide +kernel)
set_option maxRecDepth 20000 in
theorem gJ2_checkIndex_2214a_J2_length_9d52b : GoodIn wsJ2_checkIndex_2214a (va_wsS RJ2 48 yJ2_length_9d52b wsJ2_length_9d52b) := goodIn_app (goodIn_of _ (by decide +kernel)) ggJ2_checkIndex_2214a_J2_length_9d52b
set_option maxRecDepth 20000 in
theorem ggJ2_checkIndex_2214a_J0_checkIndex_df160 : GoodIn wsJ2_checkIndex_2214a wsJ0_checkIndex_df160 := goodIn_r _ [8, 9, 10, 11, 12, 13] (by decide +kernel) (by decide +kernel)
set_option maxRecDepth 20000 in
theorem gJ2_checkIndex_2214a_J0_checkIndex_df160 : GoodIn wsJ2_checkIndex_2214a (va_wsS RJ2 414 yJ0_checkIndex_df160 wsJ0_checkIndex_df160) := goodIn_app (goodIn_of _ (by decide +kernel)) ggJ2_checkIndex_2214a_J0_checkIndex_df160
theorem dJ2_checkIndex_2214a_0 : decode cJ2_checkIndex_2214a 0 = .ok (.iload_n 0, 1) := by decide +kernel
theorem dJ2_checkIndex_2214a_1 : decode cJ2_checkIndex_2214a 1 = .ok (.aload_n 1, 1) := by decide +kernel
theorem dJ2_checkIndex_2214a_2 : decode cJ2_checkIndex_2214a 2 = .ok (.invokestatic 48, 3) := by decide +kernel
theorem dJ2_checkIndex_2214a_5 : decode cJ2_checkIndex_2214a 5 = .ok (.invokestatic 414, 3) := by decide +kernel
theorem dJ2_checkIndex_2214a_8 : decode cJ2_checkIndex_2214a 8 = .ok (.return_, 1) := by decide +kernel
theorem dJ3_checkIndex_8e157_0 : decode cJ3_checkIndex_8e157 0 = .ok (.iload_n 0, 1) := by decide +kernel
theorem dJ3_checkIndex_8e157_1 : decode cJ3_checkIndex_8e157 1 = .ok (.ifCond .lt 8, 3) := by decide +kernel
theorem dJ3_checkIndex_8e157_4 : decode cJ3_checkIndex_8e157 4 = .ok (.iload_n 0, 1) := by decide +kernel
theorem dJ3_checkIndex_8e157_5 : decode cJ3_checkIndex_8e157 5 = .ok (.iload_n 1, 1) := by decide +kernel
theorem dJ3_checkIndex_8e157_6 : decode cJ3_checkIndex_8e157 6 = .ok (.if_icmp .lt 10, 3) := by decide +kernel
theorem dJ3_checkIndex_8e157_9 : decode cJ3_checkIndex_8e157 9 = .ok (.aload_n 2, 1) := by decide +kernel
theorem dJ3_checkIndex_8e157_10 : decode cJ3_checkIndex_8e157 10 = .ok (.iload_n 0, 1) := by decide +kernel
theorem dJ3_checkIndex_8e157_11 : decode cJ3_checkIndex_8e157 11 = .ok (.iload_n 1, 1) := by decide +kernel
theorem dJ3_checkIndex_8e157_12 : decode cJ3_checkIndex_8e157 12 = .ok (.invokestatic 95, 3) := by decide +kernel
theorem dJ3_checkIndex_8e157_15 : decode cJ3_checkIndex_8e157 15 = .ok (.athrow, 1) := by decide +kernel
theorem dJ3_checkIndex_8e157_16 : decode cJ3_checkIndex_8e157 16 = .ok (.iload_n 0, 1) := by decide +kernel
theorem dJ3_checkIndex_8e157_17 : decode cJ3_checkIndex_8e157 17 = .ok (.ireturn, 1) := by decide +kernel
set_option maxRecDepth 20000 in
theorem ggL_law_X4_init : GoodIn wsL_law wsX4_init := goodIn_r _ [9, 10, 11, 12, 13, 14, 15, 16, 17, 18, 19, 20, 21, 22, 23, 24, 25, 26, 27, 28, 29, 30, 31, 32, 33, 34, 35, 36, 37, 38, 39, 40, 41, 42, 43, 44, 45, 46, 47, 48, 49, 50, 51, 52, 53, 54, 55, 56, 57, 58, 59, 60, 61, 62, 63, 890, 891, 892, 893, 894, 895, 896, 897, 898, 899, 900, 868, 869, 870, 871, 872, 873, 874, 901, 902, 903, 904, 905, 906, 907, 908, 909] (by decide +kernel) (by decide +kernel)
set_option maxRecDepth 20000 in
theorem gL_law_X4_init : GoodIn wsL_law (wsX4_init) := ggL_law_X4_init
set_option maxRecDepth 20000 in
theorem ggL_law_X5_init : GoodIn wsL_law wsX5_init := goodIn_r _ [66, 67, 11, 12, 28, 68, 69, 70, 71, 72, 73, 74, 62, 75, 875, 876, 877, 878, 879, 880, 881, 882, 883, 884, 885, 886, 887, 888, 889] (by decide +kernel) (by decide +kernel)
set_option maxRecDepth 20000 in
theorem gL_law_X5_init : GoodIn wsL_law (wsX5_init) := ggL_law_X5_init
set_option maxRecDepth 20000 in
theorem ggL_law_X4_door : GoodIn wsL_law wsX4_door := goodIn_r _ [79, 16, 80, 81, 82, 83, 84, 2, 85, 86, 87, 88, 89, 29, 868, 869, 870, 871, 872, 873, 874, 890, 891, 892, 893, 894, 895, 896, 897, 898, 899, 900] (by decide +kernel) (by decide +kernel)
set_option maxRecDepth 20000 in
theorem gL_law_X4_door : GoodIn wsL_law (wsV RL 13 RX4 yX4_door wsX4_door) := goodIn_app (goodIn_of _ (by decide +kernel)) ggL_law_X4_door
set_option maxRecDepth 20000 in
theorem ggL_law_X5_door : GoodIn wsL_law wsX5_door := goodIn_r _ [93, 94, 95, 96, 5, 97, 98, 99, 100, 101, 68, 102, 103, 104, 105, 71, 875, 876, 877, 878, 879, 880, 881, 882, 883, 884, 885, 886, 887, 888, 889] (by decide +kernel) (by decide +kernel)
set_option maxRecDepth 20000 in
theorem gL_law_X5_door : GoodIn wsL_law (wsV RL 17 RX5 yX5_door wsX5_door) := goodIn_app (goodIn_of _ (by decide +kernel)) ggL_law_X5_door
set_option maxRecDepth 20000 in
theorem ggL_law_X4_now : GoodIn wsL_law wsX4_now := goodIn_r _ [109, 16, 110, 80, 81, 111, 112, 82, 113, 114, 115, 15, 116, 38, 43, 117, 118, 119, 120, 40, 121, 122, 123, 124, 86, 87, 88, 2, 89, 29, 83, 84, 85, 868, 869, 870, 871, 872, 873, 874, 890, 891, 892, 893, 894, 895, 896, 897, 898, 899, 900] (by decide +kernel) (by decide +kernel)
set_option maxRecDepth 20000 in
theorem gL_law_X4_now : GoodIn wsL_law (wsV RL 18 RX4 yX4_now wsX4_now) := goodIn_app (goodIn_of _ (by decide +kernel)) ggL_law_X4_now
set_option maxRecDepth 20000 in
theorem ggL_law_X5_now : GoodIn wsL_law wsX5_now := goodIn_r _ [128, 68, 94, 129, 130, 131, 5, 132, 133, 134, 135, 136, 137, 138, 139, 140, 141, 142, 143, 144, 102, 103, 104, 105, 71, 875, 876, 877, 878, 879, 880, 881, 882, 883, 884, 885, 886, 887, 888, 889] (by decide +kernel) (by decide +kernel)
set_option maxRecDepth 20000 in
theorem gL_law_X5_now : GoodIn wsL_law (wsV RL 22 RX5 yX5_now wsX5_now) := goodIn_app (goodIn_of _ (by decide +kernel)) ggL_law_X5_now
set_option maxRecDepth 20000 in
theorem ggL_law_X4_person : GoodIn wsL_law wsX4_person := goodIn_r _ [148, 82, 16, 149, 150, 151, 152, 153, 83, 84, 2, 85, 86, 87, 88, 89, 29, 154, 155, 156, 15, 157, 38, 158, 159, 160, 161, 39, 40, 41, 42, 43, 44, 868, 869, 870, 871, 872, 873, 874, 890, 891, 892, 893, 894, 895, 896, 897, 898, 899, 900] (by decide +kernel) (by decide +kernel)
set_option maxRecDepth 20000 in
theorem gL_law_X4_person : GoodIn wsL_law (wsV RL 23 RX4 yX4_person wsX4_person) := goodIn_app (goodIn_of _ (by decide +kernel)) ggL_law_X4_person
set_option maxRecDepth 20000 in
theorem ggL_law_X5_person : GoodIn wsL_law wsX5_person := goodIn_r _ [165, 94, 68, 166, 95, 96, 5, 97, 102, 103, 104, 105, 71, 167, 168, 169, 170, 171, 172, 173, 174, 875, 876, 877, 878, 879, 880, 881, 882, 883, 884, 885, 886, 887, 888, 889] (by decide +kernel) (by decide +kernel)
set_option maxRecDepth 20000 in
theorem gL_law_X5_person : GoodIn wsL_law (wsV RL 26 RX5 yX5_person wsX5_person) := goodIn_app (goodIn_of _ (by decide +kernel)) ggL_law_X5_person
set_option maxRecDepth 20000 in
theorem ggL_law_X4_of : GoodIn wsL_law wsX4_of := goodIn_r _ [178, 82, 16, 179, 180, 181, 2, 182, 183, 83, 84, 85, 86, 87, 88, 89, 29, 184, 185, 186, 15, 187, 39, 41, 36, 188, 189, 152, 190, 191, 192, 193, 194, 195, 196, 197, 198, 199, 200, 201, 40, 42, 43, 44, 868, 869, 870, 871, 872, 873, 874, 890, 891, 892, 893, 894, 895, 896, 897, 898, 899, 900] (by decide +kernel) (by decide +kernel)
set_option maxRecDepth 20000 in
theorem gL_law_X4_of : GoodIn wsL_law (wsV RL 27 RX4 yX4_of wsX4_of) := goodIn_app (goodIn_of _ (by decide +kernel)) ggL_law_X4_of
set_option maxRecDepth 20000 in
theorem ggL_law_X5_of : GoodIn wsL_law wsX5_of := goodIn_r _ [205, 94, 68, 206, 207, 208, 5, 209, 95, 96, 97, 102, 103, 104, 105, 71, 133, 134, 135, 136, 210, 211, 212, 213, 214, 215, 216, 875, 876, 877, 878, 879, 880, 881, 882, 883, 884, 885, 886, 887, 888, 889] (by decide +kernel) (by decide +kernel)
set_option maxRecDepth 20000 in
theorem gL_law_X5_of : GoodIn wsL_law (wsV RL 30 RX5 yX5_of wsX5_of) := goodIn_app (goodIn_of _ (by decide +kernel)) ggL_law_X5_of
set_option maxRecDepth 20000 in
theorem ggL_law_X4_set : GoodIn wsL_law wsX4_set := goodIn_r _ [220, 16, 82, 198, 199, 200, 15, 201, 39, 40, 41, 42, 43, 44, 179, 180, 181, 2, 182, 183, 83, 84, 85, 221, 222, 223, 86, 87, 88, 89, 29, 868, 869, 870, 871, 872, 873, 874, 890, 891, 892, 893, 894, 895, 896, 897, 898, 899, 900] (by decide +kernel) (by decide +kernel)
set_option maxRecDepth 20000 in
theorem gL_law_X4_set : GoodIn wsL_law (wsV RL 31 RX4 yX4_set wsX4_set) := goodIn_app (goodIn_of _ (by decide +kernel)) ggL_law_X4_set
set_option maxRecDepth 20000 in
theorem ggL_law_X5_set : GoodIn wsL_law wsX5_set := goodIn_r _ [227, 94, 206, 207, 208, 5, 209, 68, 95, 96, 97, 228, 229, 230, 98, 99, 100, 101, 102, 103, 104, 105, 71, 875, 876, 877, 878, 879, 880, 881, 882, 883, 884, 885, 886, 887, 888, 889] (by decide +kernel) (by decide +kernel)
set_option maxRecDepth 20000 in
theorem gL_law_X5_set : GoodIn wsL_law (wsV RL 35 RX5 yX5_set wsX5_set) := goodIn_app (goodIn_of _ (by decide +kernel)) ggL_law_X5_set
set_option maxRecDepth 20000 in
theorem ggL_law_X4_turn : GoodIn wsL_law wsX4_turn := goodIn_r _ [234, 82, 16, 235, 179, 180, 181, 2, 182, 183, 83, 84, 85, 150, 151, 152, 153, 86, 87, 88, 89, 29, 868, 869, 870, 871, 872, 873, 874, 890, 891, 892, 893, 894, 895, 896, 897, 898, 899, 900] (by decide +kernel) (by decide +kernel)
set_option maxRecDepth 20000 in
theorem gL_law_X4_turn : GoodIn wsL_law (wsV RL 36 RX4 yX4_turn wsX4_turn) := goodIn_app (goodIn_of _ (by decide +kernel)) ggL_law_X4_turn
set_option maxRecDepth 20000 in
theorem ggL_law_X5_turn : GoodIn wsL_law wsX5_turn := goodIn_r _ [239, 94, 206, 207, 208, 5, 209, 68, 95, 96, 97, 98, 99, 100, 101, 102, 103, 104, 105, 71, 875, 876, 877, 878, 879, 880, 881, 882, 883, 884, 885, 886, 887, 888, 889] (by decide +kernel) (by decide +kernel)
set_option maxRecDepth 20000 in
theorem gL_law_X5_turn : GoodIn wsL_law (wsV RL 39 RX5 yX5_turn wsX5_turn) := goodIn_app (goodIn_of _ (by decide +kernel)) ggL_law_X5_turn
set_option maxRecDepth 20000 in
theorem ggL_law_X4_as : GoodIn wsL_law wsX4_as := goodIn_r _ [243, 82, 16, 235, 244, 245, 179, 180, 181, 2, 182, 183, 83, 84, 85, 150, 151, 152, 153, 86, 87, 88, 89, 29, 246, 247, 248, 249, 250, 251, 868, 869, 870, 871, 872, 873, 874, 890, 891, 892, 893, 894, 895, 896, 897, 898, 899, 900] (by decide +kernel) (by decide +kernel)
set_option maxRecDepth 20000 in
theorem gL_law_X4_as : GoodIn wsL_law (wsV RL 40 RX4 yX4_as wsX4_as) := goodIn_app (goodIn_of _ (by decide +kernel)) ggL_law_X4_as
set_option maxRecDepth 20000 in
theorem ggL_law_X5_as : GoodIn wsL_law wsX5_as := goodIn_r _ [255, 94, 256, 206, 207, 208, 5, 209, 68, 95, 96, 97, 102, 103, 104, 105, 71, 133, 134, 135, 136, 875, 876, 877, 878, 879, 880, 881, 882, 883, 884, 885, 886, 887, 888, 889] (by decide +kernel) (by decide +kernel)
set_option maxRecDepth 20000 in
theorem gL_law_X5_as : GoodIn wsL_law (wsV RL 43 RX5 yX5_as wsX5_as) := goodIn_app (goodIn_of _ (by decide +kernel)) ggL_law_X5_as
set_option maxRecDepth 20000 in
theorem ggL_law_X4_holds : GoodIn wsL_law wsX4_holds := goodIn_r _ [260, 82, 16, 261, 262, 263, 2, 264, 179, 180, 181, 182, 183, 83, 84, 85, 86, 87, 88, 89, 29, 265, 266, 267, 15, 268, 39, 42, 41, 40, 269, 270, 152, 271, 868, 869, 870, 871, 872, 873, 874, 890, 891, 892, 893, 894, 895, 896, 897, 898, 899, 900] (by decide +kernel) (by decide +kernel)
set_option maxRecDepth 20000 in
theorem gL_law_X4_holds : GoodIn wsL_law (wsV RL 44 RX4 yX4_holds wsX4_holds) := goodIn_app (goodIn_of _ (by decide +kernel)) ggL_law_X4_holds
set_option maxRecDepth 20000 in
theorem ggL_law_X5_holds : GoodIn wsL_law wsX5_holds := goodIn_r _ [275, 94, 276, 277, 278, 5, 279, 206, 207, 208, 209, 68, 95, 96, 97, 280, 281, 282, 283, 133, 134, 135, 136, 102, 103, 104, 105, 71, 875, 876, 877, 878, 879, 880, 881, 882, 883, 884, 885, 886, 887, 888, 889] (by decide +kernel) (by decide +kernel)
set_option maxRecDepth 20000 in
theorem gL_law_X5_holds : GoodIn wsL_law (wsV RL 47 RX5 yX5_holds wsX5_holds) := goodIn_app (goodIn_of _ (by decide +kernel)) ggL_law_X5_holds
set_option maxRecDepth 20000 in
theorem ggL_law_X4_asks : GoodIn wsL_law wsX4_asks := goodIn_r _ [287, 82, 16, 261, 262, 263, 2, 264, 179, 180, 181, 182, 183, 83, 84, 85, 86, 87, 88, 89, 29, 288, 289, 290, 15, 291, 39, 35, 41, 292, 293, 152, 294, 868, 869, 870, 871, 872, 873, 874, 890, 891, 892, 893, 894, 895, 896, 897, 898, 899, 900] (by decide +kernel) (by decide +kernel)
set_option maxRecDepth 20000 in
theorem gL_law_X4_asks : GoodIn wsL_law (wsV RL 48 RX4 yX4_asks wsX4_asks) := goodIn_app (goodIn_of _ (by decide +kernel)) ggL_law_X4_asks
set_option maxRecDepth 20000 in
theorem ggL_law_X5_asks : GoodIn wsL_law wsX5_asks := goodIn_r _ [298, 94, 276, 277, 278, 5, 279, 206, 207, 208, 209, 68, 95, 96, 97, 299, 300, 301, 302, 133, 134, 135, 136, 102, 103, 104, 105, 71, 875, 876, 877, 878, 879, 880, 881, 882, 883, 884, 885, 886, 887, 888, 889] (by decide +kernel) (by decide +kernel)
set_option maxRecDepth 20000 in
theorem gL_law_X5_asks : GoodIn wsL_law (wsV RL 51 RX5 yX5_asks wsX5_asks) := goodIn_app (goodIn_of _ (by decide +kernel)) ggL_law_X5_asks
set_option maxRecDepth 20000 in
theorem ggL_law_X4_seconds : GoodIn wsL_law wsX4_seconds := goodIn_r _ [306, 82, 16, 110, 307, 308, 83, 84, 2, 85, 86, 87, 88, 89, 29, 309, 310, 311, 15, 312, 34, 313, 314, 315, 316, 36, 38, 43, 42, 40, 317, 318, 319, 320, 321, 322, 323, 324, 325, 192, 193, 194, 326, 185, 186, 187, 39, 41, 188, 189, 152, 190, 191, 195, 196, 197, 327, 328, 329, 330, 44, 331, 332, 333, 334, 335, 336, 337, 37, 338, 339, 340, 341, 342, 266, 267, 268, 269, 270, 271, 343, 344, 345, 346, 347, 289, 290, 291, 35, 292, 293, 294, 113, 114, 115, 116, 868, 869, 870, 871, 872, 873, 874, 890, 891, 892, 893, 894, 895, 896, 897, 898, 899, 900] (by decide +kernel) (by decide +kernel)
set_option maxRecDepth 20000 in
theorem gL_law_X4_seconds : GoodIn wsL_law (wsV RL 52 RX4 yX4_seconds wsX4_seconds) := goodIn_app (goodIn_of _ (by decide +kernel)) ggL_law_X4_seconds
set_option maxRecDepth 20000 in
theorem ggL_law_X5_seconds : GoodIn wsL_law wsX5_seconds := goodIn_r _ [351, 94, 68, 352, 353, 95, 96, 5, 97, 102, 103, 104, 105, 71, 354, 355, 356, 357, 358, 359, 360, 361, 133, 134, 135, 136, 210, 211, 212, 213, 214, 215, 216, 171, 172, 173, 174, 362, 363, 364, 365, 299, 300, 301, 302, 366, 367, 368, 369, 370, 371, 372, 373, 280, 281, 282, 283, 129, 130, 131, 132, 875, 876, 877, 878, 879, 880, 881, 882, 883, 884, 885, 886, 887, 888, 889] (by decide +kernel) (by decide +kernel)
set_option maxRecDepth 20000 in
theorem gL_law_X5_seconds : GoodIn wsL_law (wsV RL 55 RX5 yX5_seconds wsX5_seconds) := goodIn_app (goodIn_of _ (by decide +kernel)) ggL_law_X5_seconds
set_option maxRecDepth 20000 in
theorem ggL_law_X4_on : GoodIn wsL_law wsX4_on := goodIn_r _ [377, 82, 179, 180, 181, 2, 182, 16, 183, 83, 84, 85, 86, 87, 88, 89, 29, 378, 379, 380, 381, 17, 382, 383, 384, 15, 385, 34, 35, 36, 37, 38, 39, 386, 387, 388, 389, 40, 41, 42, 43, 44, 309, 310, 311, 312, 313, 314, 315, 316, 317, 318, 319, 320, 321, 322, 323, 324, 325, 192, 193, 194, 326, 185, 186, 187, 188, 189, 152, 190, 191, 195, 196, 197, 327, 328, 329, 330, 331, 332, 333, 334, 335, 336, 337, 338, 339, 340, 341, 342, 266, 267, 268, 269, 270, 271, 343, 344, 345, 346, 347, 289, 290, 291, 292, 293, 294, 198, 199, 200, 201, 868, 869, 870, 871, 872, 873, 874, 890, 891, 892, 893, 894, 895, 896, 897, 898, 899, 900] (by decide +kernel) (by decide +kernel)
set_option maxRecDepth 20000 in
theorem gL_law_X4_on : GoodIn wsL_law (wsV RL 56 RX4 yX4_on wsX4_on) := goodIn_app (goodIn_of _ (by decide +kernel)) ggL_law_X4_on
set_option maxRecDepth 20000 in
theorem ggL_law_X5_on : GoodIn wsL_law wsX5_on := goodIn_r _ [393, 94, 206, 207, 208, 5, 209, 68, 95, 96, 97, 102, 103, 104, 105, 71, 394, 395, 396, 397, 70, 398, 399, 400, 354, 355, 356, 357, 358, 359, 360, 361, 133, 134, 135, 136, 210, 211, 212, 213, 214, 215, 216, 171, 172, 173, 174, 362, 363, 364, 365, 299, 300, 301, 302, 366, 367, 368, 369, 370, 371, 372, 373, 280, 281, 282, 283, 401, 402, 403, 404, 875, 876, 877, 878, 879, 880, 881, 882, 883, 884, 885, 886, 887, 888, 889] (by decide +kernel) (by decide +kernel)
set_option maxRecDepth 20000 in
theorem gL_law_X5_on : GoodIn wsL_law (wsV RL 59 RX5 yX5_on wsX5_on) := goodIn_app (goodIn_of _ (by decide +kernel)) ggL_law_X5_on
set_option maxRecDepth 20000 in
theorem ggL_law_X4_loose : GoodIn wsL_law wsX4_loose := goodIn_r _ [408, 82, 83, 84, 2, 85, 86, 87, 88, 89, 29, 378, 379, 380, 381, 17, 16, 382, 383, 384, 15, 385, 34, 35, 36, 37, 38, 39, 386, 387, 388, 389, 40, 41, 42, 43, 44, 309, 310, 311, 312, 313, 314, 315, 316, 317, 318, 319, 320, 321, 322, 323, 324, 325, 192, 193, 194, 326, 185, 186, 187, 188, 189, 152, 190, 191, 195, 196, 197, 327, 328, 329, 330, 331, 332, 333, 334, 335, 336, 337, 338, 339, 340, 341, 342, 266, 267, 268, 269, 270, 271, 343, 344, 345, 346, 347, 289, 290, 291, 292, 293, 294, 409, 410, 411, 412, 413, 118, 119, 120, 414, 415, 416, 417, 418, 419, 420, 868, 869, 870, 871, 872, 873, 874, 890, 891, 892, 893, 894, 895, 896, 897, 898, 899, 900] (by decide +kernel) (by decide +kernel)
set_option maxRecDepth 20000 in
theorem gL_law_X4_loose : GoodIn wsL_law (wsV RL 60 RX4 yX4_loose wsX4_loose) := goodIn_app (goodIn_of _ (by decide +kernel)) ggL_law_X4_loose
set_option maxRecDepth 20000 in
theorem ggL_law_X5_loose : GoodIn wsL_law wsX5_loose := goodIn_r _ [424, 94, 95, 96, 5, 97, 102, 103, 104, 105, 71, 394, 395, 396, 397, 68, 70, 398, 399, 400, 425, 426, 427, 428, 354, 355, 356, 357, 358, 359, 360, 361, 133, 134, 135, 136, 210, 211, 212, 213, 214, 215, 216, 171, 172, 173, 174, 362, 363, 364, 365, 299, 300, 301, 302, 366, 367, 368, 369, 370, 371, 372, 373, 280, 281, 282, 283, 137, 138, 139, 140, 429, 430, 431, 401, 402, 403, 404, 875, 876, 877, 878, 879, 880, 881, 882, 883, 884, 885, 886, 887, 888, 889] (by decide +kernel) (by decide +kernel)
set_option maxRecDepth 20000 in
theorem gL_law_X5_loose : GoodIn wsL_law (wsV RL 63 RX5 yX5_loose wsX5_loose) := goodIn_app (goodIn_of _ (by decide +kernel)) ggL_law_X5_loose
set_option maxRecDepth 20000 in
theorem ggL_law_X4_comes : GoodIn wsL_law wsX4_comes := goodIn_r _ [435, 82, 179, 180, 181, 2, 182, 16, 183, 83, 84, 85, 86, 87, 88, 89, 29, 378, 379, 380, 381, 17, 382, 383, 384, 15, 385, 34, 35, 36, 37, 38, 39, 386, 387, 388, 389, 40, 41, 42, 43, 44, 436, 437, 438, 439, 313, 314, 315, 316, 317, 318, 319, 320, 321, 322, 323, 324, 325, 192, 193, 194, 326, 185, 186, 187, 188, 189, 152, 190, 191, 195, 196, 197, 327, 328, 329, 330, 331, 332, 333, 334, 335, 336, 337, 338, 339, 340, 341, 342, 266, 267, 268, 269, 270, 271, 343, 344, 345, 346, 347, 289, 290, 291, 292, 293, 294, 440, 441, 442, 443, 444, 868, 869, 870, 871, 872, 873, 874, 890, 891, 892, 893, 894, 895, 896, 897, 898, 899, 900] (by decide +kernel) (by decide +kernel)
set_option maxRecDepth 20000 in
theorem gL_law_X4_comes : GoodIn wsL_law (wsV RL 64 RX4 yX4_comes wsX4_comes) := goodIn_app (goodIn_of _ (by decide +kernel)) ggL_law_X4_comes
set_option maxRecDepth 20000 in
theorem ggL_law_X5_comes : GoodIn wsL_law wsX5_comes := goodIn_r _ [448, 94, 449, 206, 207, 208, 5, 209, 68, 95, 96, 97, 102, 103, 104, 105, 71, 394, 395, 396, 397, 70, 398, 399, 400, 133, 134, 135, 136, 358, 359, 360, 361, 210, 211, 212, 213, 214, 215, 216, 171, 172, 173, 174, 362, 363, 364, 365, 299, 300, 301, 302, 366, 367, 368, 369, 370, 371, 372, 373, 280, 281, 282, 283, 401, 402, 403, 404, 875, 876, 877, 878, 879, 880, 881, 882, 883, 884, 885, 886, 887, 888, 889] (by decide +kernel) (by decide +kernel)
set_option maxRecDepth 20000 in
theorem gL_law_X5_comes : GoodIn wsL_law (wsV RL 67 RX5 yX5_comes wsX5_comes) := goodIn_app (goodIn_of _ (by decide +kernel)) ggL_law_X5_comes
set_option maxRecDepth 20000 in
theorem ggL_law_X4_shuts : GoodIn wsL_law wsX4_shuts := goodIn_r _ [453, 378, 379, 380, 2, 381, 17, 16, 382, 383, 384, 15, 385, 34, 35, 36, 37, 38, 39, 386, 387, 388, 389, 40, 41, 42, 43, 44, 454, 455, 456, 457, 317, 318, 319, 320, 321, 322, 323, 324, 325, 192, 193, 194, 326, 185, 186, 187, 188, 189, 152, 190, 191, 195, 196, 197, 327, 328, 329, 330, 331, 332, 333, 334, 335, 336, 337, 338, 339, 340, 341, 342, 266, 267, 268, 269, 270, 271, 343, 344, 345, 346, 347, 289, 290, 291, 292, 293, 294, 440, 441, 442, 443, 444, 86, 87, 88, 89, 82, 29, 83, 84, 85, 868, 869, 870, 871, 872, 873, 874, 890, 891, 892, 893, 894, 895, 896, 897, 898, 899, 900] (by decide +kernel) (by decide +kernel)
set_option maxRecDepth 20000 in
theorem gL_law_X4_shuts : GoodIn wsL_law (wsV RL 68 RX4 yX4_shuts wsX4_shuts) := goodIn_app (goodIn_of _ (by decide +kernel)) ggL_law_X4_shuts
set_option maxRecDepth 20000 in
theorem ggL_law_X5_shuts : GoodIn wsL_law wsX5_shuts := goodIn_r _ [461, 68, 449, 394, 395, 396, 5, 397, 70, 398, 399, 400, 358, 359, 360, 361, 133, 134, 135, 136, 210, 211, 212, 213, 214, 215, 216, 171, 172, 173, 174, 362, 363, 364, 365, 299, 300, 301, 302, 366, 367, 368, 369, 370, 371, 372, 373, 280, 281, 282, 283, 401, 402, 403, 404, 102, 103, 104, 105, 71, 94, 875, 876, 877, 878, 879, 880, 881, 882, 883, 884, 885, 886, 887, 888, 889] (by decide +kernel) (by decide +kernel)
set_option maxRecDepth 20000 in
theorem gL_law_X5_shuts : GoodIn wsL_law (wsV RL 72 RX5 yX5_shuts wsX5_shuts) := goodIn_app (goodIn_of _ (by decide +kernel)) ggL_law_X5_shuts
set_option maxRecDepth 20000 in
theorem ggL_law_X4_all : GoodIn wsL_law wsX4_all := goodIn_r _ [465, 378, 379, 380, 2, 381, 17, 16, 382, 383, 384, 15, 385, 34, 35, 36, 37, 38, 39, 386, 387, 388, 389, 40, 41, 42, 43, 44, 466, 467, 468, 469, 470, 122, 123, 124, 313, 314, 315, 316, 317, 318, 319, 320, 321, 322, 323, 324, 325, 192, 193, 194, 326, 185, 186, 187, 188, 189, 152, 190, 191, 195, 196, 197, 327, 328, 329, 330, 331, 332, 333, 334, 335, 336, 337, 338, 339, 340, 341, 342, 266, 267, 268, 269, 270, 271, 343, 344, 345, 346, 347, 289, 290, 291, 292, 293, 294, 440, 441, 442, 443, 444, 86, 87, 88, 89, 82, 29, 83, 84, 85, 868, 869, 870, 871, 872, 873, 874, 890, 891, 892, 893, 894, 895, 896, 897, 898, 899, 900] (by decide +kernel) (by decide +kernel)
set_option maxRecDepth 20000 in
theorem gL_law_X4_all : GoodIn wsL_law (wsV RL 73 RX4 yX4_all wsX4_all) := goodIn_app (goodIn_of _ (by decide +kernel)) ggL_law_X4_all
set_option maxRecDepth 20000 in
theorem ggL_law_X5_all : GoodIn wsL_law wsX5_all := goodIn_r _ [474, 68, 449, 394, 395, 396, 5, 397, 70, 398, 399, 400, 129, 130, 131, 132, 133, 134, 135, 136, 358, 359, 360, 361, 210, 211, 212, 213, 214, 215, 216, 171, 172, 173, 174, 362, 363, 364, 365, 299, 300, 301, 302, 366, 367, 368, 369, 370, 371, 372, 373, 280, 281, 282, 283, 401, 402, 403, 404, 102, 103, 104, 105, 71, 94, 875, 876, 877, 878, 879, 880, 881, 882, 883, 884, 885, 886, 887, 888, 889] (by decide +kernel) (by decide +kernel)
set_option maxRecDepth 20000 in
theorem gL_law_X5_all : GoodIn wsL_law (wsV RL 76 RX5 yX5_all wsX5_all) := goodIn_app (goodIn_of _ (by decide +kernel)) ggL_law_X5_all
set_option maxRecDepth 20000 in
theorem ggL_law_X4_care : GoodIn wsL_law wsX4_care := goodIn_r _ [478, 82, 16, 80, 444, 479, 480, 2, 481, 83, 84, 85, 86, 87, 88, 89, 29, 409, 410, 411, 15, 412, 413, 118, 119, 120, 38, 40, 43, 414, 415, 416, 417, 418, 419, 420, 378, 379, 380, 381, 17, 382, 383, 384, 385, 34, 35, 36, 37, 39, 386, 387, 388, 389, 41, 42, 44, 309, 310, 311, 312, 313, 314, 315, 316, 317, 318, 319, 320, 321, 322, 323, 324, 325, 192, 193, 194, 326, 185, 186, 187, 188, 189, 152, 190, 191, 195, 196, 197, 327, 328, 329, 330, 331, 332, 333, 334, 335, 336, 337, 338, 339, 340, 341, 342, 266, 267, 268, 269, 270, 271, 343, 344, 345, 346, 347, 289, 290, 291, 292, 293, 294, 868, 869, 870, 871, 872, 873, 874, 890, 891, 892, 893, 894, 895, 896, 897, 898, 899, 900] (by decide +kernel) (by decide +kernel)
set_option maxRecDepth 20000 in
theorem gL_law_X4_care : GoodIn wsL_law (wsV RL 77 RX4 yX4_care wsX4_care) := goodIn_app (goodIn_of _ (by decide +kernel)) ggL_law_X4_care
set_option maxRecDepth 20000 in
theorem ggL_law_X5_care : GoodIn wsL_law wsX5_care := goodIn_r _ [485, 94, 68, 95, 96, 5, 97, 102, 103, 104, 105, 71, 394, 395, 396, 397, 70, 398, 399, 400, 137, 138, 139, 140, 133, 134, 135, 136, 429, 430, 431, 425, 426, 427, 428, 354, 355, 356, 357, 358, 359, 360, 361, 210, 211, 212, 213, 214, 215, 216, 171, 172, 173, 174, 362, 363, 364, 365, 299, 300, 301, 302, 366, 367, 368, 369, 370, 371, 372, 373, 280, 281, 282, 283, 401, 402, 403, 404, 486, 487, 488, 489, 449, 875, 876, 877, 878, 879, 880, 881, 882, 883, 884, 885, 886, 887, 888, 889] (by decide +kernel) (by decide +kernel)
set_option maxRecDepth 20000 in
theorem gL_law_X5_care : GoodIn wsL_law (wsV RL 80 RX5 yX5_care wsX5_care) := goodIn_app (goodIn_of _ (by decide +kernel)) ggL_law_X5_care
set_option maxRecDepth 20000 in
theorem ggL_law_X4_kind : GoodIn wsL_law wsX4_kind := goodIn_r _ [493, 82, 235, 179, 180, 181, 2, 182, 16, 183, 83, 84, 85, 479, 480, 481, 86, 87, 88, 89, 29, 378, 379, 380, 381, 17, 382, 383, 384, 15, 385, 34, 35, 36, 37, 38, 39, 386, 387, 388, 389, 40, 41, 42, 43, 44, 309, 310, 311, 312, 313, 314, 315, 316, 317, 318, 319, 320, 321, 322, 323, 324, 325, 192, 193, 194, 326, 185, 186, 187, 188, 189, 152, 190, 191, 195, 196, 197, 327, 328, 329, 330, 331, 332, 333, 334, 335, 336, 337, 338, 339, 340, 341, 342, 266, 267, 268, 269, 270, 271, 343, 344, 345, 346, 347, 289, 290, 291, 292, 293, 294, 409, 410, 411, 412, 413, 118, 119, 120, 414, 415, 416, 417, 418, 419, 420, 890, 891, 892, 893, 894, 895, 896, 897, 898, 899, 900, 868, 869, 870, 871, 872, 873, 874] (by decide +kernel) (by decide +kernel)
set_option maxRecDepth 20000 in
theorem gL_law_X4_kind : GoodIn wsL_law (wsV RL 81 RX4 yX4_kind wsX4_kind) := goodIn_app (goodIn_of _ (by decide +kernel)) ggL_law_X4_kind
set_option maxRecDepth 20000 in
theorem ggL_law_X5_kind : GoodIn wsL_law wsX5_kind := goodIn_r _ [497, 94, 206, 207, 208, 5, 209, 68, 95, 96, 97, 102, 103, 104, 105, 71, 394, 395, 396, 397, 70, 398, 399, 400, 171, 172, 173, 174, 425, 426, 427, 428, 354, 355, 356, 357, 358, 359, 360, 361, 133, 134, 135, 136, 210, 211, 212, 213, 214, 215, 216, 362, 363, 364, 365, 299, 300, 301, 302, 366, 367, 368, 369, 370, 371, 372, 373, 280, 281, 282, 283, 137, 138, 139, 140, 429, 430, 431, 401, 402, 403, 404, 875, 876, 877, 878, 879, 880, 881, 882, 883, 884, 885, 886, 887, 888, 889] (by decide +kernel) (by decide +kernel)
set_option maxRecDepth 20000 in
theorem gL_law_X5_kind : GoodIn wsL_law (wsV RL 84 RX5 yX5_kind wsX5_kind) := goodIn_app (goodIn_of _ (by decide +kernel)) ggL_law_X5_kind
set_option maxRecDepth 20000 in
theorem ggL_law_X4_far : GoodIn wsL_law wsX4_far := goodIn_r _ [501, 82, 245, 444, 179, 180, 181, 2, 182, 16, 183, 83, 84, 85, 479, 480, 481, 86, 87, 88, 89, 29, 378, 379, 380, 381, 17, 382, 383, 384, 15, 385, 34, 35, 36, 37, 38, 39, 386, 387, 388, 389, 40, 41, 42, 43, 44, 436, 437, 438, 439, 313, 314, 315, 316, 317, 318, 319, 320, 321, 322, 323, 324, 325, 192, 193, 194, 326, 185, 186, 187, 188, 189, 152, 190, 191, 195, 196, 197, 327, 328, 329, 330, 331, 332, 333, 334, 335, 336, 337, 338, 339, 340, 341, 342, 266, 267, 268, 269, 270, 271, 343, 344, 345, 346, 347, 289, 290, 291, 292, 293, 294, 890, 891, 892, 893, 894, 895, 896, 897, 898, 899, 900, 868, 869, 870, 871, 872, 873, 874] (by decide +kernel) (by decide +kernel)
set_option maxRecDepth 20000 in
theorem gL_law_X4_far : GoodIn wsL_law (wsV RL 85 RX4 yX4_far wsX4_far) := goodIn_app (goodIn_of _ (by decide +kernel)) ggL_law_X4_far
set_option maxRecDepth 20000 in
theorem ggL_law_X5_far : GoodIn wsL_law wsX5_far := goodIn_r _ [505, 94, 206, 207, 208, 5, 209, 68, 95, 96, 97, 102, 103, 104, 105, 71, 394, 395, 396, 397, 70, 398, 399, 400, 171, 172, 173, 174, 506, 507, 508, 509, 354, 355, 356, 357, 358, 359, 360, 361, 133, 134, 135, 136, 210, 211, 212, 213, 214, 215, 216, 362, 363, 364, 365, 299, 300, 301, 302, 366, 367, 368, 369, 370, 371, 372, 373, 280, 281, 282, 283, 401, 402, 403, 404, 486, 487, 488, 489, 449, 875, 876, 877, 878, 879, 880, 881, 882, 883, 884, 885, 886, 887, 888, 889] (by decide +kernel) (by decide +kernel)
set_option maxRecDepth 20000 in
theorem gL_law_X5_far : GoodIn wsL_law (wsV RL 88 RX5 yX5_far wsX5_far) := goodIn_app (goodIn_of _ (by decide +kernel)) ggL_law_X5_far
set_option maxRecDepth 20000 in
theorem ggL_law_X4_order : GoodIn wsL_law wsX4_order := goodIn_r _ [513, 82, 16, 183, 479, 480, 2, 481, 83, 84, 85, 86, 87, 88, 89, 29, 378, 379, 380, 381, 17, 382, 383, 384, 15, 385, 34, 35, 36, 37, 38, 39, 386, 387, 388, 389, 40, 41, 42, 43, 44, 309, 310, 311, 312, 313, 314, 315, 316, 317, 318, 319, 320, 321, 322, 323, 324, 325, 192, 193, 194, 326, 185, 186, 187, 188, 189, 152, 190, 191, 195, 196, 197, 327, 328, 329, 330, 331, 332, 333, 334, 335, 336, 337, 338, 339, 340, 341, 342, 266, 267, 268, 269, 270, 271, 343, 344, 345, 346, 347, 289, 290, 291, 292, 293, 294, 409, 410, 411, 412, 413, 118, 119, 120, 414, 415, 416, 417, 418, 419, 420, 514, 515, 516, 517, 440, 441, 442, 443, 444, 868, 869, 870, 871, 872, 873, 874, 890, 891, 892, 893, 894, 895, 896, 897, 898, 899, 900] (by decide +kernel) (by decide +kernel)
set_option maxRecDepth 20000 in
theorem gL_law_X4_order : GoodIn wsL_law (wsV RL 89 RX4 yX4_order wsX4_order) := goodIn_app (goodIn_of _ (by decide +kernel)) ggL_law_X4_order
set_option maxRecDepth 20000 in
theorem ggL_law_X5_order : GoodIn wsL_law wsX5_order := goodIn_r _ [521, 94, 68, 95, 96, 5, 97, 102, 103, 104, 105, 71, 394, 395, 396, 397, 70, 398, 399, 400, 425, 426, 427, 428, 354, 355, 356, 357, 358, 359, 360, 361, 133, 134, 135, 136, 210, 211, 212, 213, 214, 215, 216, 171, 172, 173, 174, 362, 363, 364, 365, 299, 300, 301, 302, 366, 367, 368, 369, 370, 371, 372, 373, 280, 281, 282, 283, 137, 138, 139, 140, 429, 430, 431, 401, 402, 403, 404, 486, 487, 488, 489, 449, 875, 876, 877, 878, 879, 880, 881, 882, 883, 884, 885, 886, 887, 888, 889] (by decide +kernel) (by decide +kernel)
set_option maxRecDepth 20000 in
theorem gL_law_X5_order : GoodIn wsL_law (wsV RL 92 RX5 yX5_order wsX5_order) := goodIn_app (goodIn_of _ (by decide +kernel)) ggL_law_X5_order
set_option maxRecDepth 20000 in
theorem ggL_law_X4_take : GoodIn wsL_law wsX4_take := goodIn_r _ [525, 82, 16, 183, 526, 527, 479, 480, 2, 481, 83, 84, 85, 86, 87, 88, 89, 29, 378, 379, 380, 381, 17, 382, 383, 384, 15, 385, 34, 35, 36, 37, 38, 39, 386, 387, 388, 389, 40, 41, 42, 43, 44, 309, 310, 311, 312, 313, 314, 315, 316, 317, 318, 319, 320, 321, 322, 323, 324, 325, 192, 193, 194, 326, 185, 186, 187, 188, 189, 152, 190, 191, 195, 196, 197, 327, 328, 329, 330, 331, 332, 333, 334, 335, 336, 337, 338, 339, 340, 341, 342, 266, 267, 268, 269, 270, 271, 343, 344, 345, 346, 347, 289, 290, 291, 292, 293, 294, 121, 122, 123, 124, 440, 441, 442, 443, 444, 868, 869, 870, 871, 872, 873, 874, 890, 891, 892, 893, 894, 895, 896, 897, 898, 899, 900] (by decide +kernel) (by decide +kernel)
set_option maxRecDepth 20000 in
theorem gL_law_X4_take : GoodIn wsL_law (wsV RL 93 RX4 yX4_take wsX4_take) := goodIn_app (goodIn_of _ (by decide +kernel)) ggL_law_X4_take
set_option maxRecDepth 20000 in
theorem ggL_law_X5_take : GoodIn wsL_law wsX5_take := goodIn_r _ [531, 94, 68, 95, 96, 5, 97, 102, 103, 104, 105, 71, 394, 395, 396, 397, 70, 398, 399, 400, 133, 134, 135, 136, 171, 172, 173, 174, 354, 355, 356, 357, 358, 359, 360, 361, 210, 211, 212, 213, 214, 215, 216, 362, 363, 364, 365, 299, 300, 301, 302, 366, 367, 368, 369, 370, 371, 372, 373, 280, 281, 282, 283, 129, 130, 131, 132, 429, 430, 431, 401, 402, 403, 404, 486, 487, 488, 489, 449, 875, 876, 877, 878, 879, 880, 881, 882, 883, 884, 885, 886, 887, 888, 889] (by decide +kernel) (by decide +kernel)
set_option maxRecDepth 20000 in
theorem gL_law_X5_take : GoodIn wsL_law (wsV RL 96 RX5 yX5_take wsX5_take) := goodIn_app (goodIn_of _ (by decide +kernel)) ggL_law_X5_take
set_option maxRecDepth 20000 in
theorem ggL_law_X4_load : GoodIn wsL_law wsX4_load := goodIn_r _ [535, 82, 536, 444, 179, 180, 181, 2, 182, 16, 183, 83, 84, 85, 479, 480, 481, 86, 87, 88, 89, 29, 378, 379, 380, 381, 17, 382, 383, 384, 15, 385, 34, 35, 36, 37, 38, 39, 386, 387, 388, 389, 40, 41, 42, 43, 44, 436, 437, 438, 439, 313, 314, 315, 316, 317, 318, 319, 320, 321, 322, 323, 324, 325, 192, 193, 194, 326, 185, 186, 187, 188, 189, 152, 190, 191, 195, 196, 197, 327, 328, 329, 330, 331, 332, 333, 334, 335, 336, 337, 338, 339, 340, 341, 342, 266, 267, 268, 269, 270, 271, 343, 344, 345, 346, 347, 289, 290, 291, 292, 293, 294, 890, 891, 892, 893, 894, 895, 896, 897, 898, 899, 900, 868, 869, 870, 871, 872, 873, 874] (by decide +kernel) (by decide +kernel)
set_option maxRecDepth 20000 in
theorem gL_law_X4_load : GoodIn wsL_law (wsV RL 97 RX4 yX4_load wsX4_load) := goodIn_app (goodIn_of _ (by decide +kernel)) ggL_law_X4_load
set_option maxRecDepth 20000 in
theorem ggL_law_X5_load : GoodIn wsL_law wsX5_load := goodIn_r _ [540, 94, 206, 207, 208, 5, 209, 68, 95, 96, 97, 102, 103, 104, 105, 71, 394, 395, 396, 397, 70, 398, 399, 400, 171, 172, 173, 174, 506, 507, 508, 509, 354, 355, 356, 357, 358, 359, 360, 361, 133, 134, 135, 136, 210, 211, 212, 213, 214, 215, 216, 362, 363, 364, 365, 299, 300, 301, 302, 366, 367, 368, 369, 370, 371, 372, 373, 280, 281, 282, 283, 401, 402, 403, 404, 486, 487, 488, 489, 449, 875, 876, 877, 878, 879, 880, 881, 882, 883, 884, 885, 886, 887, 888, 889] (by decide +kernel) (by decide +kernel)
set_option maxRecDepth 20000 in
theorem gL_law_X5_load : GoodIn wsL_law (wsV RL 100 RX5 yX5_load wsX5_load) := goodIn_app (goodIn_of _ (by decide +kernel)) ggL_law_X5_load
set_option maxRecDepth 20000 in
theorem ggL_law_X4_feed : GoodIn wsL_law wsX4_feed := goodIn_r _ [544, 82, 23, 545, 149, 83, 84, 2, 85, 86, 87, 88, 89, 29, 546, 547, 548, 22, 549, 50, 51, 868, 869, 870, 871, 872, 873, 874, 901, 902, 903, 904, 905, 906] (by decide +kernel) (by decide +kernel)
set_option maxRecDepth 20000 in
theorem gL_law_X4_feed : GoodIn wsL_law (wsV RL 101 RX4 yX4_feed wsX4_feed) := goodIn_app (goodIn_of _ (by decide +kernel)) ggL_law_X4_feed
set_option maxRecDepth 20000 in
theorem ggL_law_X5_feed : GoodIn wsL_law wsX5_feed := goodIn_r _ [553, 94, 554, 166, 72, 95, 96, 5, 97, 102, 103, 104, 105, 71, 875, 876, 877, 878, 879, 880, 881, 882, 883, 884, 885, 886, 887, 888, 889] (by decide +kernel) (by decide +kernel)
set_option maxRecDepth 20000 in
theorem gL_law_X5_feed : GoodIn wsL_law (wsV RL 104 RX5 yX5_feed wsX5_feed) := goodIn_app (goodIn_of _ (by decide +kernel)) ggL_law_X5_feed
set_option maxRecDepth 20000 in
theorem ggL_law_X4_wipe : GoodIn wsL_law wsX4_wipe := goodIn_r _ [558, 23, 545, 868, 869, 870, 871, 872, 873, 874, 901, 902, 903, 904, 905, 906] (by decide +kernel) (by decide +kernel)
set_option maxRecDepth 20000 in
theorem gL_law_X4_wipe : GoodIn wsL_law (wsV RL 105 RX4 yX4_wipe wsX4_wipe) := goodIn_app (goodIn_of _ (by decide +kernel)) ggL_law_X4_wipe
set_option maxRecDepth 20000 in
theorem ggL_law_X5_wipe : GoodIn wsL_law wsX5_wipe := goodIn_r _ [562, 554, 875, 876, 877, 878, 879, 880, 881, 882, 883, 884, 885, 886, 887, 888, 889] (by decide +kernel) (by decide +kernel)
set_option maxRecDepth 20000 in
theorem gL_law_X5_wipe : GoodIn wsL_law (wsV RL 108 RX5 yX5_wipe wsX5_wipe) := goodIn_app (goodIn_of _ (by decide +kernel)) ggL_law_X5_wipe
set_option maxRecDepth 20000 in
theorem ggL_law_X4_morning : GoodIn wsL_law wsX4_morning := goodIn_r _ [566, 23, 16, 545, 378, 379, 380, 2, 381, 17, 382, 383, 384, 15, 385, 34, 35, 36, 37, 38, 39, 386, 387, 388, 389, 40, 41, 42, 43, 44, 567, 568, 569, 22, 570, 54, 53, 52, 571, 572, 573, 574, 51, 50, 575, 576, 577, 578, 579, 580, 581, 582, 583, 584, 585, 586, 587, 588, 55, 589, 332, 193, 333, 590, 591, 592, 593, 594, 595, 596, 597, 598, 599, 600, 601, 602, 603, 604, 605, 606, 607, 608, 609, 610, 611, 612, 613, 614, 615, 616, 617, 618, 619, 620, 621, 622, 623, 624, 625, 626, 627, 628, 629, 630, 631, 632, 633, 634, 635, 636, 637, 638, 639, 640, 641, 642, 643, 644, 645, 646, 647, 648, 649, 650, 651, 652, 653, 654, 655, 656, 657, 658, 659, 660, 661, 662, 663, 664, 152, 665, 666, 155, 156, 157, 667, 159, 160, 161, 868, 869, 870, 871, 872, 873, 874, 901, 902, 903, 904, 905, 906, 890, 891, 892, 893, 894, 895, 896, 897, 898, 899, 900] (by decide +kernel) (by decide +kernel)
set_option maxRecDepth 20000 in
theorem gL_law_X4_morning : GoodIn wsL_law (wsV RL 109 RX4 yX4_morning wsX4_morning) := goodIn_app (goodIn_of _ (by decide +kernel)) ggL_law_X4_morning
set_option maxRecDepth 20000 in
theorem ggL_law_X5_morning : GoodIn wsL_law wsX5_morning := goodIn_r _ [671, 672, 673, 674, 554, 675, 394, 395, 396, 5, 397, 68, 70, 398, 399, 400, 676, 677, 678, 679, 680, 72, 681, 682, 683, 684, 95, 96, 97, 685, 686, 687, 688, 689, 690, 691, 692, 693, 694, 695, 696, 697, 698, 699, 700, 701, 702, 703, 704, 705, 706, 707, 708, 709, 710, 711, 712, 713, 167, 168, 169, 170, 171, 172, 173, 174, 401, 402, 403, 404, 875, 876, 877, 878, 879, 880, 881, 882, 883, 884, 885, 886, 887, 888, 889] (by decide +kernel) (by decide +kernel)
set_option maxRecDepth 20000 in
theorem gL_law_X5_morning : GoodIn wsL_law (wsV RL 112 RX5 yX5_morning wsX5_morning) := goodIn_app (goodIn_of _ (by decide +kernel)) ggL_law_X5_morning
set_option maxRecDepth 20000 in
theorem ggL_law_X4_sheet : GoodIn wsL_law wsX4_sheet := goodIn_r _ [717, 82, 718, 25, 719, 720, 721, 2, 722, 83, 84, 85, 723, 724, 27, 725, 86, 87, 88, 89, 29, 726, 727, 728, 729, 60, 61, 63, 868, 869, 870, 871, 872, 873, 874, 907, 908, 909] (by decide +kernel) (by decide +kernel)
set_option maxRecDepth 20000 in
theorem gL_law_X4_sheet : GoodIn wsL_law (wsV RL 113 RX4 yX4_sheet wsX4_sheet) := goodIn_app (goodIn_of _ (by decide +kernel)) ggL_law_X4_sheet
set_option maxRecDepth 20000 in
theorem ggL_law_X5_sheet : GoodIn wsL_law wsX5_sheet := goodIn_r _ [733, 94, 734, 73, 74, 75, 735, 736, 5, 737, 95, 96, 97, 102, 103, 104, 105, 71, 875, 876, 877, 878, 879, 880, 881, 882, 883, 884, 885, 886, 887, 888, 889] (by decide +kernel) (by decide +kernel)
set_option maxRecDepth 20000 in
theorem gL_law_X5_sheet : GoodIn wsL_law (wsV RL 116 RX5 yX5_sheet wsX5_sheet) := goodIn_app (goodIn_of _ (by decide +kernel)) ggL_law_X5_sheet
set_option maxRecDepth 20000 in
theorem ggL_law_X4_write : GoodIn wsL_law wsX4_write := goodIn_r _ [741, 82, 25, 742, 719, 743, 720, 721, 2, 722, 83, 84, 85, 86, 87, 88, 89, 29, 744, 745, 746, 27, 747, 60, 748, 749, 750, 751, 63, 868, 869, 870, 871, 872, 873, 874, 907, 908, 909] (by decide +kernel) (by decide +kernel)
set_option maxRecDepth 20000 in
theorem gL_law_X4_write : GoodIn wsL_law (wsV RL 119 RX4 yX4_write wsX4_write) := goodIn_app (goodIn_of _ (by decide +kernel)) ggL_law_X4_write
set_option maxRecDepth 20000 in
theorem ggL_law_X5_write : GoodIn wsL_law wsX5_write := goodIn_r _ [755, 74, 94, 75, 73, 756, 757, 758, 5, 759, 760, 735, 736, 737, 95, 96, 97, 102, 103, 104, 105, 71, 761, 762, 763, 875, 876, 877, 878, 879, 880, 881, 882, 883, 884, 885, 886, 887, 888, 889] (by decide +kernel) (by decide +kernel)
set_option maxRecDepth 20000 in
theorem gL_law_X5_write : GoodIn wsL_law (wsV RL 123 RX5 yX5_write wsX5_write) := goodIn_app (goodIn_of _ (by decide +kernel)) ggL_law_X5_write
set_option maxRecDepth 20000 in
theorem ggL_law_X4_copy : GoodIn wsL_law wsX4_copy := goodIn_r _ [767, 82, 25, 742, 768, 244, 743, 769, 387, 388, 389, 720, 721, 2, 722, 83, 84, 85, 86, 87, 88, 89, 29, 744, 745, 746, 27, 747, 60, 770, 771, 772, 773, 61, 868, 869, 870, 871, 872, 873, 874, 907, 908, 909] (by decide +kernel) (by decide +kernel)
set_option maxRecDepth 20000 in
theorem gL_law_X4_copy : GoodIn wsL_law (wsV RL 124 RX4 yX4_copy wsX4_copy) := goodIn_app (goodIn_of _ (by decide +kernel)) ggL_law_X4_copy
set_option maxRecDepth 20000 in
theorem ggL_law_X5_copy : GoodIn wsL_law wsX5_copy := goodIn_r _ [777, 75, 778, 779, 780, 5, 781, 94, 73, 760, 256, 74, 735, 736, 737, 95, 96, 97, 102, 103, 104, 105, 71, 875, 876, 877, 878, 879, 880, 881, 882, 883, 884, 885, 886, 887, 888, 889] (by decide +kernel) (by decide +kernel)
set_option maxRecDepth 20000 in
theorem gL_law_X5_copy : GoodIn wsL_law (wsV RL 128 RX5 yX5_copy wsX5_copy) := goodIn_app (goodIn_of _ (by decide +kernel)) ggL_law_X5_copy
set_option maxRecDepth 20000 in
theorem ggL_law_X4_lays : GoodIn wsL_law wsX4_lays := goodIn_r _ [785, 82, 25, 742, 719, 16, 183, 786, 332, 193, 333, 743, 787, 245, 720, 721, 2, 722, 83, 84, 85, 86, 87, 88, 89, 29, 744, 745, 746, 27, 747, 60, 868, 869, 870, 871, 872, 873, 874, 907, 908, 909, 890, 891, 892, 893, 894, 895, 896, 897, 898, 899, 900] (by decide +kernel) (by decide +kernel)
set_option maxRecDepth 20000 in
theorem gL_law_X4_lays : GoodIn wsL_law (wsV RL 129 RX4 yX4_lays wsX4_lays) := goodIn_app (goodIn_of _ (by decide +kernel)) ggL_law_X4_lays
set_option maxRecDepth 20000 in
theorem ggL_law_X5_lays : GoodIn wsL_law wsX5_lays := goodIn_r _ [791, 74, 68, 75, 756, 757, 758, 5, 759, 94, 73, 760, 735, 736, 737, 95, 96, 97, 102, 103, 104, 105, 71, 171, 172, 173, 174, 875, 876, 877, 878, 879, 880, 881, 882, 883, 884, 885, 886, 887, 888, 889] (by decide +kernel) (by decide +kernel)
set_option maxRecDepth 20000 in
theorem gL_law_X5_lays : GoodIn wsL_law (wsV RL 132 RX5 yX5_lays wsX5_lays) := goodIn_app (goodIn_of _ (by decide +kernel)) ggL_law_X5_lays
set_option maxRecDepth 20000 in
theorem ggL_law_X4_book : GoodIn wsL_law wsX4_book := goodIn_r _ [795, 25, 719, 245, 796, 797, 798, 2, 799, 82, 742, 720, 721, 722, 83, 84, 85, 744, 745, 746, 27, 747, 60, 179, 180, 181, 182, 16, 183, 86, 87, 88, 89, 29, 378, 379, 380, 381, 17, 382, 383, 384, 15, 385, 34, 35, 36, 37, 38, 39, 386, 387, 388, 389, 40, 41, 42, 43, 44, 748, 749, 750, 751, 63, 800, 318, 319, 320, 321, 322, 323, 324, 325, 192, 193, 194, 326, 185, 186, 187, 188, 189, 152, 190, 191, 195, 196, 197, 327, 328, 329, 330, 331, 332, 333, 334, 335, 336, 337, 338, 339, 340, 341, 342, 266, 267, 268, 269, 270, 271, 343, 344, 345, 346, 347, 289, 290, 291, 292, 293, 294, 868, 869, 870, 871, 872, 873, 874, 907, 908, 909, 890, 891, 892, 893, 894, 895, 896, 897, 898, 899, 900] (by decide +kernel) (by decide +kernel)
set_option maxRecDepth 20000 in
theorem gL_law_X4_book : GoodIn wsL_law (wsV RL 133 RX4 yX4_book wsX4_book) := goodIn_app (goodIn_of _ (by decide +kernel)) ggL_law_X4_book
set_option maxRecDepth 20000 in
theorem ggL_law_X5_book : GoodIn wsL_law wsX5_book := goodIn_r _ [804, 74, 75, 73, 805, 806, 807, 5, 808, 94, 756, 757, 758, 759, 760, 735, 736, 737, 95, 96, 97, 206, 207, 208, 209, 68, 102, 103, 104, 105, 71, 394, 395, 396, 397, 70, 398, 399, 400, 133, 134, 135, 136, 761, 762, 763, 358, 359, 360, 361, 210, 211, 212, 213, 214, 215, 216, 171, 172, 173, 174, 362, 363, 364, 365, 299, 300, 301, 302, 366, 367, 368, 369, 370, 371, 372, 373, 280, 281, 282, 283, 401, 402, 403, 404, 875, 876, 877, 878, 879, 880, 881, 882, 883, 884, 885, 886, 887, 888, 889] (by decide +kernel) (by decide +kernel)
set_option maxRecDepth 20000 in
theorem gL_law_X5_book : GoodIn wsL_law (wsV RL 136 RX5 yX5_book wsX5_book) := goodIn_app (goodIn_of _ (by decide +kernel)) ggL_law_X5_book
set_option maxRecDepth 20000 in
theorem ggL_law_X4_read : GoodIn wsL_law wsX4_read := goodIn_r _ [812, 235, 536, 25, 796, 797, 798, 2, 799, 82, 742, 720, 721, 722, 83, 84, 85, 744, 745, 746, 27, 747, 60, 179, 180, 181, 182, 16, 183, 86, 87, 88, 89, 29, 378, 379, 380, 381, 17, 382, 383, 384, 15, 385, 34, 35, 36, 37, 38, 39, 386, 387, 388, 389, 40, 41, 42, 43, 44, 813, 814, 815, 816, 817, 818, 317, 318, 319, 320, 321, 322, 323, 324, 325, 192, 193, 194, 326, 185, 186, 187, 188, 189, 152, 190, 191, 195, 196, 197, 327, 328, 329, 330, 331, 332, 333, 334, 335, 336, 337, 338, 339, 340, 341, 342, 266, 267, 268, 269, 270, 271, 343, 344, 345, 346, 347, 289, 290, 291, 292, 293, 294, 890, 891, 892, 893, 894, 895, 896, 897, 898, 899, 900, 868, 869, 870, 871, 872, 873, 874, 907, 908, 909] (by decide +kernel) (by decide +kernel)
set_option maxRecDepth 20000 in
theorem gL_law_X4_read : GoodIn wsL_law (wsV RL 137 RX4 yX4_read wsX4_read) := goodIn_app (goodIn_of _ (by decide +kernel)) ggL_law_X4_read
set_option maxRecDepth 20000 in
theorem ggL_law_X5_read : GoodIn wsL_law wsX5_read := goodIn_r _ [822, 805, 806, 807, 5, 808, 94, 756, 757, 758, 759, 73, 760, 735, 736, 737, 95, 96, 97, 206, 207, 208, 209, 68, 102, 103, 104, 105, 71, 394, 395, 396, 397, 70, 398, 399, 400, 171, 172, 173, 174, 823, 824, 825, 826, 74, 75, 133, 134, 135, 136, 358, 359, 360, 361, 210, 211, 212, 213, 214, 215, 216, 362, 363, 364, 365, 299, 300, 301, 302, 366, 367, 368, 369, 370, 371, 372, 373, 280, 281, 282, 283, 401, 402, 403, 404, 875, 876, 877, 878, 879, 880, 881, 882, 883, 884, 885, 886, 887, 888, 889] (by decide +kernel) (by decide +kernel)
set_option maxRecDepth 20000 in
theorem gL_law_X5_read : GoodIn wsL_law (wsV RL 140 RX5 yX5_read wsX5_read) := goodIn_app (goodIn_of _ (by decide +kernel)) ggL_law_X5_read
set_option maxRecDepth 20000 in
theorem ggL_law_X4_image : GoodIn wsL_law wsX4_image := goodIn_r _ [830, 18, 16, 19, 382, 383, 384, 15, 385, 34, 35, 36, 37, 38, 39, 386, 387, 388, 389, 40, 41, 42, 43, 44, 868, 869, 870, 871, 872, 873, 874, 890, 891, 892, 893, 894, 895, 896, 897, 898, 899, 900] (by decide +kernel) (by decide +kernel)
set_option maxRecDepth 20000 in
theorem gL_law_X4_image : GoodIn wsL_law (wsV RL 141 RX4 yX4_image wsX4_image) := goodIn_app (goodIn_of _ (by decide +kernel)) ggL_law_X4_image
set_option maxRecDepth 20000 in
theorem ggL_law_X5_image : GoodIn wsL_law wsX5_image := goodIn_r _ [834, 68, 69, 835, 398, 399, 5, 400, 875, 876, 877, 878, 879, 880, 881, 882, 883, 884, 885, 886, 887, 888, 889] (by decide +kernel) (by decide +kernel)
set_option maxRecDepth 20000 in
theorem gL_law_X5_image : GoodIn wsL_law (wsV RL 144 RX5 yX5_image wsX5_image) := goodIn_app (goodIn_of _ (by decide +kernel)) ggL_law_X5_image
set_option maxRecDepth 20000 in
theorem ggL_law_X4_undo : GoodIn wsL_law wsX4_undo := goodIn_r _ [839, 19, 444, 16, 18, 183, 86, 87, 88, 2, 89, 82, 29, 83, 84, 85, 382, 383, 384, 15, 385, 34, 35, 36, 37, 38, 39, 386, 387, 388, 389, 40, 41, 42, 43, 44, 868, 869, 870, 871, 872, 873, 874, 890, 891, 892, 893, 894, 895, 896, 897, 898, 899, 900] (by decide +kernel) (by decide +kernel)
set_option maxRecDepth 20000 in
theorem gL_law_X4_undo : GoodIn wsL_law (wsV RL 145 RX4 yX4_undo wsX4_undo) := goodIn_app (goodIn_of _ (by decide +kernel)) ggL_law_X4_undo
set_option maxRecDepth 20000 in
theorem ggL_law_X5_undo : GoodIn wsL_law wsX5_undo := goodIn_r _ [843, 835, 449, 69, 68, 102, 103, 104, 5, 105, 71, 94, 398, 399, 400, 875, 876, 877, 878, 879, 880, 881, 882, 883, 884, 885, 886, 887, 888, 889] (by decide +kernel) (by decide +kernel)
set_option maxRecDepth 20000 in
theorem gL_law_X5_undo : GoodIn wsL_law (wsV RL 148 RX5 yX5_undo wsX5_undo) := goodIn_app (goodIn_of _ (by decide +kernel)) ggL_law_X5_undo
set_option maxRecDepth 20000 in
theorem ggL_law_X4_tear : GoodIn wsL_law wsX4_tear := goodIn_r _ [847, 19, 868, 869, 870, 871, 872, 873, 874] (by decide +kernel) (by decide +kernel)
set_option maxRecDepth 20000 in
theorem gL_law_X4_tear : GoodIn wsL_law (wsV RL 149 RX4 yX4_tear wsX4_tear) := goodIn_app (goodIn_of _ (by decide +kernel)) ggL_law_X4_tear
set_option maxRecDepth 20000 in
theorem ggL_law_X5_tear : GoodIn wsL_law wsX5_tear := goodIn_r _ [851, 835, 875, 876, 877, 878, 879, 880, 881, 882, 883, 884, 885, 886, 887, 888, 889] (by decide +kernel) (by decide +kernel)
set_option maxRecDepth 20000 in
theorem gL_law_X5_tear : GoodIn wsL_law (wsV RL 152 RX5 yX5_tear wsX5_tear) := goodIn_app (goodIn_of _ (by decide +kernel)) ggL_law_X5_tear
set_option maxRecDepth 20000 in
theorem ggL_law_X4_count : GoodIn wsL_law wsX4_count := goodIn_r _ [855, 16, 183, 23, 545, 526, 536, 82, 121, 122, 123, 15, 124, 38, 86, 87, 88, 2, 89, 29, 83, 84, 85, 868, 869, 870, 871, 872, 873, 874, 890, 891, 892, 893, 894, 895, 896, 897, 898, 899, 900, 901, 902, 903, 904, 905, 906] (by decide +kernel) (by decide +kernel)
set_option maxRecDepth 20000 in
theorem gL_law_X4_count : GoodIn wsL_law (wsV RL 153 RX4 yX4_count wsX4_count) := goodIn_app (goodIn_of _ (by decide +kernel)) ggL_law_X4_count
set_option maxRecDepth 20000 in
theorem ggL_law_X5_count : GoodIn wsL_law wsX5_count := goodIn_r _ [859, 68, 554, 94, 141, 142, 143, 5, 144, 133, 134, 135, 136, 102, 103, 104, 105, 71, 875, 876, 877, 878, 879, 880, 881, 882, 883, 884, 885, 886, 887, 888, 889] (by decide +kernel) (by decide +kernel)
set_option maxRecDepth 20000 in
theorem gL_law_X5_count : GoodIn wsL_law (wsV RL 156 RX5 yX5_count wsX5_count) := goodIn_app (goodIn_of _ (by decide +kernel)) ggL_law_X5_count
set_option maxRecDepth 20000 in
theorem ggL_law_X4_status : GoodIn wsL_law wsX4_status := goodIn_r _ [863, 29, 82, 83, 84, 2, 85, 86, 87, 88, 89, 868, 869, 870, 871, 872, 873, 874] (by decide +kernel) (by decide +kernel)
set_option maxRecDepth 20000 in
theorem gL_law_X4_status : GoodIn wsL_law (wsV RL 157 RX4 yX4_status wsX4_status) := goodIn_app (goodIn_of _ (by decide +kernel)) ggL_law_X4_status
set_option maxRecDepth 20000 in
theorem ggL_law_X5_status : GoodIn wsL_law wsX5_status := goodIn_r _ [867, 94, 71, 95, 96, 5, 97, 102, 103, 104, 105, 875, 876, 877, 878, 879, 880, 881, 882, 883, 884, 885, 886, 887, 888, 889] (by decide +kernel) (by decide +kernel)
set_option maxRecDepth 20000 in
theorem gL_law_X5_status : GoodIn wsL_law (wsV RL 160 RX5 yX5_status wsX5_status) := goodIn_app (goodIn_of _ (by decide +kernel)) ggL_law_X5_status
theorem dL_law_0 : decode cL_law 0 = .ok (.new 7, 3) := by decide +kernel
theorem dL_law_3 : decode cL_law 3 = .ok (.dup, 1) := by decide +kernel
theorem dL_law_4 : decode cL_law 4 = .ok (.invokespecial 9, 3) := by decide +kernel
theorem dL_law_7 : decode cL_law 7 = .ok (.astore_n 1, 1) := by decide +kernel
theorem dL_law_8 : decode cL_law 8 = .ok (.new 10, 3) := by decide +kernel
theorem dL_law_11 : decode cL_law 11 = .ok (.dup, 1) := by decide +kernel
theorem dL_law_12 : decode cL_law 12 = .ok (.invokespecial 12, 3) := by decide +kernel
theorem dL_law_15 : decode cL_law 15 = .ok (.astore_n 2, 1) := by decide +kernel
theorem dL_law_16 : decode cL_law 16 = .ok (.iconst 0, 1) := by decide +kernel
theorem dL_law_17 : decode cL_law 17 = .ok (.istore_n 3, 1) := by decide +kernel
theorem dL_law_18 : decode cL_law 18 = .ok (.iload_n 3, 1) := by decide +kernel
theorem dL_law_19 : decode cL_law 19 = .ok (.aload_n 0, 1) := by decide +kernel
theorem dL_law_20 : decode cL_law 20 = .ok (.arraylength, 1) := by decide +kernel
theorem dL_law_21 : decode cL_law 21 = .ok (.bipush 6, 2) := by decide +kernel
theorem dL_law_23 : decode cL_law 23 = .ok (.isub, 1) := by decide +kernel
theorem dL_law_24 : decode cL_law 24 = .ok (.if_icmp .gt 1186, 3) := by decide +kernel
theorem dL_law_27 : decode cL_law 27 = .ok (.aload_n 0, 1) := by decide +kernel
theorem dL_law_28 : decode cL_law 28 = .ok (.iload_n 3, 1) := by decide +kernel
theorem dL_law_29 : decode cL_law 29 = .ok (.iaload, 1) := by decide +kernel
theorem dL_law_30 : decode cL_law 30 = .ok (.bipush 63, 2) := by decide +kernel
theorem dL_law_32 : decode cL_law 32 = .ok (.iand, 1) := by decide +kernel
theorem dL_law_33 : decode cL_law 33 = .ok (.tableswitch 1171 0 34 #[155, 188, 211, 244, 277, 320, 353, 386, 419, 452, 475, 518, 541, 564, 577, 590, 613, 646, 679, 702, 725, 758, 791, 804, 817, 860, 934, 997, 1020, 1053, 1086, 1099, 1112, 1125, 1148], 155) := by decide +kernel
theorem dL_law_188 : decode cL_law 188 = .ok (.aload_n 1, 1) := by decide +kernel
theorem dL_law_189 : decode cL_law 189 = .ok (.aload_n 0, 1) := by decide +kernel
theorem dL_law_190 : decode cL_law 190 = .ok (.iload_n 3, 1) := by decide +kernel
theorem dL_law_191 : decode cL_law 191 = .ok (.iconst 1, 1) := by decide +kernel
theorem dL_law_192 : decode cL_law 192 = .ok (.iadd, 1) := by decide +kernel
theorem dL_law_193 : decode cL_law 193 = .ok (.iaload, 1) := by decide +kernel
theorem dL_law_194 : decode cL_law 194 = .ok (.aload_n 0, 1) := by decide +kernel
theorem dL_law_195 : decode cL_law 195 = .ok (.iload_n 3, 1) := by decide +kernel
theorem dL_law_196 : decode cL_law 196 = .ok (.iconst 2, 1) := by decide +kernel
theorem dL_law_197 : decode cL_law 197 = .ok (.iadd, 1) := by decide +kernel
theorem dL_law_198 : decode cL_law 198 = .ok (.iaload, 1) := by decide +kernel
theorem dL_law_199 : decode cL_law 199 = .ok (.invokevirtual 13, 3) := by decide +kernel
theorem dL_law_202 : decode cL_law 202 = .ok (.aload_n 2, 1) := by decide +kernel
theorem dL_law_203 : decode cL_law 203 = .ok (.aload_n 0, 1) := by decide +kernel
theorem dL_law_204 : decode cL_law 204 = .ok (.iload_n 3, 1) := by decide +kernel
theorem dL_law_205 : decode cL_law 205 = .ok (.iconst 1, 1) := by decide +kernel
theorem dL_law_206 : decode cL_law 206 = .ok (.iadd, 1) := by decide +kernel
theorem dL_law_207 : decode cL_law 207 = .ok (.iaload, 1) := by decide +kernel
theorem dL_law_208 : decode cL_law 208 = .ok (.aload_n 0, 1) := by decide +kernel
theorem dL_law_209 : decode cL_law 209 = .ok (.iload_n 3, 1) := by decide +kernel
theorem dL_law_210 : decode cL_law 210 = .ok (.iconst 2, 1) := by decide +kernel
theorem dL_law_211 : decode cL_law 211 = .ok (.iadd, 1) := by decide +kernel
theorem dL_law_212 : decode cL_law 212 = .ok (.iaload, 1) := by decide +kernel
theorem dL_law_213 : decode cL_law 213 = .ok (.invokevirtual 17, 3) := by decide +kernel
theorem dL_law_216 : decode cL_law 216 = .ok (.if_icmp .eq 988, 3) := by decide +kernel
theorem dL_law_219 : decode cL_law 219 = .ok (.iconst 0, 1) := by decide +kernel
theorem dL_law_220 : decode cL_law 220 = .ok (.ireturn, 1) := by decide +kernel
theorem dL_law_221 : decode cL_law 221 = .ok (.aload_n 1, 1) := by decide +kernel
theorem dL_law_222 : decode cL_law 222 = .ok (.aload_n 0, 1) := by decide +kernel
theorem dL_law_223 : decode cL_law 223 = .ok (.iload_n 3, 1) := by decide +kernel
theorem dL_law_224 : decode cL_law 224 = .ok (.iconst 1, 1) := by decide +kernel
theorem dL_law_225 : decode cL_law 225 = .ok (.iadd, 1) := by decide +kernel
theorem dL_law_226 : decode cL_law 226 = .ok (.iaload, 1) := by decide +kernel
theorem dL_law_227 : decode cL_law 227 = .ok (.invokevirtual 18, 3) := by decide +kernel
theorem dL_law_230 : decode cL_law 230 = .ok (.aload_n 2, 1) := by decide +kernel
theorem dL_law_231 : decode cL_law 231 = .ok (.aload_n 0, 1) := by decide +kernel
theorem dL_law_232 : decode cL_law 232 = .ok (.iload_n 3, 1) := by decide +kernel
theorem dL_law_233 : decode cL_law 233 = .ok (.iconst 1, 1) := by decide +kernel
theorem dL_law_234 : decode cL_law 234 = .ok (.iadd, 1) := by decide +kernel
theorem dL_law_235 : decode cL_law 235 = .ok (.iaload, 1) := by decide +kernel
theorem dL_law_236 : decode cL_law 236 = .ok (.invokevirtual 22, 3) := by decide +kernel
theorem dL_law_239 : decode cL_law 239 = .ok (.if_icmp .eq 965, 3) := by decide +kernel
theorem dL_law_242 : decode cL_law 242 = .ok (.iconst 0, 1) := by decide +kernel
theorem dL_law_243 : decode cL_law 243 = .ok (.ireturn, 1) := by decide +kernel
theorem dL_law_244 : decode cL_law 244 = .ok (.aload_n 1, 1) := by decide +kernel
theorem dL_law_245 : decode cL_law 245 = .ok (.aload_n 0, 1) := by decide +kernel
theorem dL_law_246 : decode cL_law 246 = .ok (.iload_n 3, 1) := by decide +kernel
theorem dL_law_247 : decode cL_law 247 = .ok (.iconst 1, 1) := by decide +kernel
theorem dL_law_248 : decode cL_law 248 = .ok (.iadd, 1) := by decide +kernel
theorem dL_law_249 : decode cL_law 249 = .ok (.iaload, 1) := by decide +kernel
theorem dL_law_250 : decode cL_law 250 = .ok (.aload_n 0, 1) := by decide +kernel
theorem dL_law_251 : decode cL_law 251 = .ok (.iload_n 3, 1) := by decide +kernel
theorem dL_law_252 : decode cL_law 252 = .ok (.iconst 2, 1) := by decide +kernel
theorem dL_law_253 : decode cL_law 253 = .ok (.iadd, 1) := by decide +kernel
theorem dL_law_254 : decode cL_law 254 = .ok (.iaload, 1) := by decide +kernel
theorem dL_law_255 : decode cL_law 255 = .ok (.invokevirtual 23, 3) := by decide +kernel
theorem dL_law_258 : decode cL_law 258 = .ok (.aload_n 2, 1) := by decide +kernel
theorem dL_law_259 : decode cL_law 259 = .ok (.aload_n 0, 1) := by decide +kernel
theorem dL_law_260 : decode cL_law 260 = .ok (.iload_n 3, 1) := by decide +kernel
theorem dL_law_261 : decode cL_law 261 = .ok (.iconst 1, 1) := by decide +kernel
theorem dL_law_262 : decode cL_law 262 = .ok (.iadd, 1) := by decide +kernel
theorem dL_law_263 : decode cL_law 263 = .ok (.iaload, 1) := by decide +kernel
theorem dL_law_264 : decode cL_law 264 = .ok (.aload_n 0, 1) := by decide +kernel
theorem dL_law_265 : decode cL_law 265 = .ok (.iload_n 3, 1) := by decide +kernel
theorem dL_law_266 : decode cL_law 266 = .ok (.iconst 2, 1) := by decide +kernel
theorem dL_law_267 : decode cL_law 267 = .ok (.iadd, 1) := by decide +kernel
theorem dL_law_268 : decode cL_law 268 = .ok (.iaload, 1) := by decide +kernel
theorem dL_law_269 : decode cL_law 269 = .ok (.invokevirtual 26, 3) := by decide +kernel
theorem dL_law_272 : decode cL_law 272 = .ok (.if_icmp .eq 932, 3) := by decide +kernel
theorem dL_law_275 : decode cL_law 275 = .ok (.iconst 0, 1) := by decide +kernel
theorem dL_law_276 : decode cL_law 276 = .ok (.ireturn, 1) := by decide +kernel
theorem dL_law_277 : decode cL_law 277 = .ok (.aload_n 1, 1) := by decide +kernel
theorem dL_law_278 : decode cL_law 278 = .ok (.aload_n 0, 1) := by decide +kernel
theorem dL_law_279 : decode cL_law 279 = .ok (.iload_n 3, 1) := by decide +kernel
theorem dL_law_280 : decode cL_law 280 = .ok (.iconst 1, 1) := by decide +kernel
theorem dL_law_281 : decode cL_law 281 = .ok (.iadd, 1) := by decide +kernel
theorem dL_law_282 : decode cL_law 282 = .ok (.iaload, 1) := by decide +kernel
theorem dL_law_283 : decode cL_law 283 = .ok (.aload_n 0, 1) := by decide +kernel
theorem dL_law_284 : decode cL_law 284 = .ok (.iload_n 3, 1) := by decide +kernel
theorem dL_law_285 : decode cL_law 285 = .ok (.iconst 2, 1) := by decide +kernel
theorem dL_law_286 : decode cL_law 286 = .ok (.iadd, 1) := by decide +kernel
theorem dL_law_287 : decode cL_law 287 = .ok (.iaload, 1) := by decide +kernel
theorem dL_law_288 : decode cL_law 288 = .ok (.invokevirtual 27, 3) := by decide +kernel
theorem dL_law_291 : decode cL_law 291 = .ok (.aload_n 2, 1) := by decide +kernel
theorem dL_law_292 : decode cL_law 292 = .ok (.aload_n 0, 1) := by decide +kernel
theorem dL_law_293 : decode cL_law 293 = .ok (.iload_n 3, 1) := by decide +kernel
theorem dL_law_294 : decode cL_law 294 = .ok (.iconst 1, 1) := by decide +kernel
theorem dL_law_295 : decode cL_law 295 = .ok (.iadd, 1) := by decide +kernel
theorem dL_law_296 : decode cL_law 296 = .ok (.iaload, 1) := by decide +kernel
theorem dL_law_297 : decode cL_law 297 = .ok (.aload_n 0, 1) := by decide +kernel
theorem dL_law_298 : decode cL_law 298 = .ok (.iload_n 3, 1) := by decide +kernel
theorem dL_law_299 : decode cL_law 299 = .ok (.iconst 2, 1) := by decide +kernel
theorem dL_law_300 : decode cL_law 300 = .ok (.iadd, 1) := by decide +kernel
theorem dL_law_301 : decode cL_law 301 = .ok (.iaload, 1) := by decide +kernel
theorem dL_law_302 : decode cL_law 302 = .ok (.invokevirtual 30, 3) := by decide +kernel
theorem dL_law_305 : decode cL_law 305 = .ok (.if_icmp .eq 899, 3) := by decide +kernel
theorem dL_law_308 : decode cL_law 308 = .ok (.iconst 0, 1) := by decide +kernel
theorem dL_law_309 : decode cL_law 309 = .ok (.ireturn, 1) := by decide +kernel
theorem dL_law_310 : decode cL_law 310 = .ok (.aload_n 1, 1) := by decide +kernel
theorem dL_law_311 : decode cL_law 311 = .ok (.aload_n 0, 1) := by decide +kernel
theorem dL_law_312 : decode cL_law 312 = .ok (.iload_n 3, 1) := by decide +kernel
theorem dL_law_313 : decode cL_law 313 = .ok (.iconst 1, 1) := by decide +kernel
theorem dL_law_314 : decode cL_law 314 = .ok (.iadd, 1) := by decide +kernel
theorem dL_law_315 : decode cL_law 315 = .ok (.iaload, 1) := by decide +kernel
theorem dL_law_316 : decode cL_law 316 = .ok (.aload_n 0, 1) := by decide +kernel
theorem dL_law_317 : decode cL_law 317 = .ok (.iload_n 3, 1) := by decide +kernel
theorem dL_law_318 : decode cL_law 318 = .ok (.iconst 2, 1) := by decide +kernel
theorem dL_law_319 : decode cL_law 319 = .ok (.iadd, 1) := by decide +kernel
theorem dL_law_320 : decode cL_law 320 = .ok (.iaload, 1) := by decide +kernel
theorem dL_law_321 : decode cL_law 321 = .ok (.aload_n 0, 1) := by decide +kernel
theorem dL_law_322 : decode cL_law 322 = .ok (.iload_n 3, 1) := by decide +kernel
theorem dL_law_323 : decode cL_law 323 = .ok (.iconst 3, 1) := by decide +kernel
theorem dL_law_324 : decode cL_law 324 = .ok (.iadd, 1) := by decide +kernel
theorem dL_law_325 : decode cL_law 325 = .ok (.iaload, 1) := by decide +kernel
theorem dL_law_326 : decode cL_law 326 = .ok (.invokevirtual 31, 3) := by decide +kernel
theorem dL_law_329 : decode cL_law 329 = .ok (.aload_n 2, 1) := by decide +kernel
theorem dL_law_330 : decode cL_law 330 = .ok (.aload_n 0, 1) := by decide +kernel
theorem dL_law_331 : decode cL_law 331 = .ok (.iload_n 3, 1) := by decide +kernel
theorem dL_law_332 : decode cL_law 332 = .ok (.iconst 1, 1) := by decide +kernel
theorem dL_law_333 : decode cL_law 333 = .ok (.iadd, 1) := by decide +kernel
theorem dL_law_334 : decode cL_law 334 = .ok (.iaload, 1) := by decide +kernel
theorem dL_law_335 : decode cL_law 335 = .ok (.aload_n 0, 1) := by decide +kernel
theorem dL_law_336 : decode cL_law 336 = .ok (.iload_n 3, 1) := by decide +kernel
theorem dL_law_337 : decode cL_law 337 = .ok (.iconst 2, 1) := by decide +kernel
theorem dL_law_338 : decode cL_law 338 = .ok (.iadd, 1) := by decide +kernel
theorem dL_law_339 : decode cL_law 339 = .ok (.iaload, 1) := by decide +kernel
theorem dL_law_340 : decode cL_law 340 = .ok (.aload_n 0, 1) := by decide +kernel
theorem dL_law_341 : decode cL_law 341 = .ok (.iload_n 3, 1) := by decide +kernel
theorem dL_law_342 : decode cL_law 342 = .ok (.iconst 3, 1) := by decide +kernel
theorem dL_law_343 : decode cL_law 343 = .ok (.iadd, 1) := by decide +kernel
theorem dL_law_344 : decode cL_law 344 = .ok (.iaload, 1) := by decide +kernel
theorem dL_law_345 : decode cL_law 345 = .ok (.invokevirtual 35, 3) := by decide +kernel
theorem dL_law_348 : decode cL_law 348 = .ok (.if_icmp .eq 856, 3) := by decide +kernel
theorem dL_law_351 : decode cL_law 351 = .ok (.iconst 0, 1) := by decide +kernel
theorem dL_law_352 : decode cL_law 352 = .ok (.ireturn, 1) := by decide +kernel
theorem dL_law_353 : decode cL_law 353 = .ok (.aload_n 1, 1) := by decide +kernel
theorem dL_law_354 : decode cL_law 354 = .ok (.aload_n 0, 1) := by decide +kernel
theorem dL_law_355 : decode cL_law 355 = .ok (.iload_n 3, 1) := by decide +kernel
theorem dL_law_356 : decode cL_law 356 = .ok (.iconst 1, 1) := by decide +kernel
theorem dL_law_357 : decode cL_law 357 = .ok (.iadd, 1) := by decide +kernel
theorem dL_law_358 : decode cL_law 358 = .ok (.iaload, 1) := by decide +kernel
theorem dL_law_359 : decode cL_law 359 = .ok (.aload_n 0, 1) := by decide +kernel
theorem dL_law_360 : decode cL_law 360 = .ok (.iload_n 3, 1) := by decide +kernel
theorem dL_law_361 : decode cL_law 361 = .ok (.iconst 2, 1) := by decide +kernel
theorem dL_law_362 : decode cL_law 362 = .ok (.iadd, 1) := by decide +kernel
theorem dL_law_363 : decode cL_law 363 = .ok (.iaload, 1) := by decide +kernel
theorem dL_law_364 : decode cL_law 364 = .ok (.invokevirtual 36, 3) := by decide +kernel
theorem dL_law_367 : decode cL_law 367 = .ok (.aload_n 2, 1) := by decide +kernel
theorem dL_law_368 : decode cL_law 368 = .ok (.aload_n 0, 1) := by decide +kernel
theorem dL_law_369 : decode cL_law 369 = .ok (.iload_n 3, 1) := by decide +kernel
theorem dL_law_370 : decode cL_law 370 = .ok (.iconst 1, 1) := by decide +kernel
theorem dL_law_371 : decode cL_law 371 = .ok (.iadd, 1) := by decide +kernel
theorem dL_law_372 : decode cL_law 372 = .ok (.iaload, 1) := by decide +kernel
theorem dL_law_373 : decode cL_law 373 = .ok (.aload_n 0, 1) := by decide +kernel
theorem dL_law_374 : decode cL_law 374 = .ok (.iload_n 3, 1) := by decide +kernel
theorem dL_law_375 : decode cL_law 375 = .ok (.iconst 2, 1) := by decide +kernel
theorem dL_law_376 : decode cL_law 376 = .ok (.iadd, 1) := by decide +kernel
theorem dL_law_377 : decode cL_law 377 = .ok (.iaload, 1) := by decide +kernel
theorem dL_law_378 : decode cL_law 378 = .ok (.invokevirtual 39, 3) := by decide +kernel
theorem dL_law_381 : decode cL_law 381 = .ok (.if_icmp .eq 823, 3) := by decide +kernel
theorem dL_law_384 : decode cL_law 384 = .ok (.iconst 0, 1) := by decide +kernel
theorem dL_law_385 : decode cL_law 385 = .ok (.ireturn, 1) := by decide +kernel
theorem dL_law_386 : decode cL_law 386 = .ok (.aload_n 1, 1) := by decide +kernel
theorem dL_law_387 : decode cL_law 387 = .ok (.aload_n 0, 1) := by decide +kernel
theorem dL_law_388 : decode cL_law 388 = .ok (.iload_n 3, 1) := by decide +kernel
theorem dL_law_389 : decode cL_law 389 = .ok (.iconst 1, 1) := by decide +kernel
theorem dL_law_390 : decode cL_law 390 = .ok (.iadd, 1) := by decide +kernel
theorem dL_law_391 : decode cL_law 391 = .ok (.iaload, 1) := by decide +kernel
theorem dL_law_392 : decode cL_law 392 = .ok (.aload_n 0, 1) := by decide +kernel
theorem dL_law_393 : decode cL_law 393 = .ok (.iload_n 3, 1) := by decide +kernel
theorem dL_law_394 : decode cL_law 394 = .ok (.iconst 2, 1) := by decide +kernel
theorem dL_law_395 : decode cL_law 395 = .ok (.iadd, 1) := by decide +kernel
theorem dL_law_396 : decode cL_law 396 = .ok (.iaload, 1) := by decide +kernel
theorem dL_law_397 : decode cL_law 397 = .ok (.invokevirtual 40, 3) := by decide +kernel
theorem dL_law_400 : decode cL_law 400 = .ok (.aload_n 2, 1) := by decide +kernel
theorem dL_law_401 : decode cL_law 401 = .ok (.aload_n 0, 1) := by decide +kernel
theorem dL_law_402 : decode cL_law 402 = .ok (.iload_n 3, 1) := by decide +kernel
theorem dL_law_403 : decode cL_law 403 = .ok (.iconst 1, 1) := by decide +kernel
theorem dL_law_404 : decode cL_law 404 = .ok (.iadd, 1) := by decide +kernel
theorem dL_law_405 : decode cL_law 405 = .ok (.iaload, 1) := by decide +kernel
theorem dL_law_406 : decode cL_law 406 = .ok (.aload_n 0, 1) := by decide +kernel
theorem dL_law_407 : decode cL_law 407 = .ok (.iload_n 3, 1) := by decide +kernel
theorem dL_law_408 : decode cL_law 408 = .ok (.iconst 2, 1) := by decide +kernel
theorem dL_law_409 : decode cL_law 409 = .ok (.iadd, 1) := by decide +kernel
theorem dL_law_410 : decode cL_law 410 = .ok (.iaload, 1) := by decide +kernel
theorem dL_law_411 : decode cL_law 411 = .ok (.invokevirtual 43, 3) := by decide +kernel
theorem dL_law_414 : decode cL_law 414 = .ok (.if_icmp .eq 790, 3) := by decide +kernel
theorem dL_law_417 : decode cL_law 417 = .ok (.iconst 0, 1) := by decide +kernel
theorem dL_law_418 : decode cL_law 418 = .ok (.ireturn, 1) := by decide +kernel
theorem dL_law_419 : decode cL_law 419 = .ok (.aload_n 1, 1) := by decide +kernel
theorem dL_law_420 : decode cL_law 420 = .ok (.aload_n 0, 1) := by decide +kernel
theorem dL_law_421 : decode cL_law 421 = .ok (.iload_n 3, 1) := by decide +kernel
theorem dL_law_422 : decode cL_law 422 = .ok (.iconst 1, 1) := by decide +kernel
theorem dL_law_423 : decode cL_law 423 = .ok (.iadd, 1) := by decide +kernel
theorem dL_law_424 : decode cL_law 424 = .ok (.iaload, 1) := by decide +kernel
theorem dL_law_425 : decode cL_law 425 = .ok (.aload_n 0, 1) := by decide +kernel
theorem dL_law_426 : decode cL_law 426 = .ok (.iload_n 3, 1) := by decide +kernel
theorem dL_law_427 : decode cL_law 427 = .ok (.iconst 2, 1) := by decide +kernel
theorem dL_law_428 : decode cL_law 428 = .ok (.iadd, 1) := by decide +kernel
theorem dL_law_429 : decode cL_law 429 = .ok (.iaload, 1) := by decide +kernel
theorem dL_law_430 : decode cL_law 430 = .ok (.invokevirtual 44, 3) := by decide +kernel
theorem dL_law_433 : decode cL_law 433 = .ok (.aload_n 2, 1) := by decide +kernel
theorem dL_law_434 : decode cL_law 434 = .ok (.aload_n 0, 1) := by decide +kernel
theorem dL_law_435 : decode cL_law 435 = .ok (.iload_n 3, 1) := by decide +kernel
theorem dL_law_436 : decode cL_law 436 = .ok (.iconst 1, 1) := by decide +kernel
theorem dL_law_437 : decode cL_law 437 = .ok (.iadd, 1) := by decide +kernel
theorem dL_law_438 : decode cL_law 438 = .ok (.iaload, 1) := by decide +kernel
theorem dL_law_439 : decode cL_law 439 = .ok (.aload_n 0, 1) := by decide +kernel
theorem dL_law_440 : decode cL_law 440 = .ok (.iload_n 3, 1) := by decide +kernel
theorem dL_law_441 : decode cL_law 441 = .ok (.iconst 2, 1) := by decide +kernel
theorem dL_law_442 : decode cL_law 442 = .ok (.iadd, 1) := by decide +kernel
theorem dL_law_443 : decode cL_law 443 = .ok (.iaload, 1) := by decide +kernel
theorem dL_law_444 : decode cL_law 444 = .ok (.invokevirtual 47, 3) := by decide +kernel
theorem dL_law_447 : decode cL_law 447 = .ok (.if_icmp .eq 757, 3) := by decide +kernel
theorem dL_law_450 : decode cL_law 450 = .ok (.iconst 0, 1) := by decide +kernel
theorem dL_law_451 : decode cL_law 451 = .ok (.ireturn, 1) := by decide +kernel
theorem dL_law_452 : decode cL_law 452 = .ok (.aload_n 1, 1) := by decide +kernel
theorem dL_law_453 : decode cL_law 453 = .ok (.aload_n 0, 1) := by decide +kernel
theorem dL_law_454 : decode cL_law 454 = .ok (.iload_n 3, 1) := by decide +kernel
theorem dL_law_455 : decode cL_law 455 = .ok (.iconst 1, 1) := by decide +kernel
theorem dL_law_456 : decode cL_law 456 = .ok (.iadd, 1) := by decide +kernel
theorem dL_law_457 : decode cL_law 457 = .ok (.iaload, 1) := by decide +kernel
theorem dL_law_458 : decode cL_law 458 = .ok (.aload_n 0, 1) := by decide +kernel
theorem dL_law_459 : decode cL_law 459 = .ok (.iload_n 3, 1) := by decide +kernel
theorem dL_law_460 : decode cL_law 460 = .ok (.iconst 2, 1) := by decide +kernel
theorem dL_law_461 : decode cL_law 461 = .ok (.iadd, 1) := by decide +kernel
theorem dL_law_462 : decode cL_law 462 = .ok (.iaload, 1) := by decide +kernel
theorem dL_law_463 : decode cL_law 463 = .ok (.invokevirtual 48, 3) := by decide +kernel
theorem dL_law_466 : decode cL_law 466 = .ok (.aload_n 2, 1) := by decide +kernel
theorem dL_law_467 : decode cL_law 467 = .ok (.aload_n 0, 1) := by decide +kernel
theorem dL_law_468 : decode cL_law 468 = .ok (.iload_n 3, 1) := by decide +kernel
theorem dL_law_469 : decode cL_law 469 = .ok (.iconst 1, 1) := by decide +kernel
theorem dL_law_470 : decode cL_law 470 = .ok (.iadd, 1) := by decide +kernel
theorem dL_law_471 : decode cL_law 471 = .ok (.iaload, 1) := by decide +kernel
theorem dL_law_472 : decode cL_law 472 = .ok (.aload_n 0, 1) := by decide +kernel
theorem dL_law_473 : decode cL_law 473 = .ok (.iload_n 3, 1) := by decide +kernel
theorem dL_law_474 : decode cL_law 474 = .ok (.iconst 2, 1) := by decide +kernel
theorem dL_law_475 : decode cL_law 475 = .ok (.iadd, 1) := by decide +kernel
theorem dL_law_476 : decode cL_law 476 = .ok (.iaload, 1) := by decide +kernel
theorem dL_law_477 : decode cL_law 477 = .ok (.invokevirtual 51, 3) := by decide +kernel
theorem dL_law_480 : decode cL_law 480 = .ok (.if_icmp .eq 724, 3) := by decide +kernel
theorem dL_law_483 : decode cL_law 483 = .ok (.iconst 0, 1) := by decide +kernel
theorem dL_law_484 : decode cL_law 484 = .ok (.ireturn, 1) := by decide +kernel
theorem dL_law_485 : decode cL_law 485 = .ok (.aload_n 1, 1) := by decide +kernel
theorem dL_law_486 : decode cL_law 486 = .ok (.aload_n 0, 1) := by decide +kernel
theorem dL_law_487 : decode cL_law 487 = .ok (.iload_n 3, 1) := by decide +kernel
theorem dL_law_488 : decode cL_law 488 = .ok (.iconst 1, 1) := by decide +kernel
theorem dL_law_489 : decode cL_law 489 = .ok (.iadd, 1) := by decide +kernel
theorem dL_law_490 : decode cL_law 490 = .ok (.iaload, 1) := by decide +kernel
theorem dL_law_491 : decode cL_law 491 = .ok (.invokevirtual 52, 3) := by decide +kernel
theorem dL_law_494 : decode cL_law 494 = .ok (.aload_n 2, 1) := by decide +kernel
theorem dL_law_495 : decode cL_law 495 = .ok (.aload_n 0, 1) := by decide +kernel
theorem dL_law_496 : decode cL_law 496 = .ok (.iload_n 3, 1) := by decide +kernel
theorem dL_law_497 : decode cL_law 497 = .ok (.iconst 1, 1) := by decide +kernel
theorem dL_law_498 : decode cL_law 498 = .ok (.iadd, 1) := by decide +kernel
theorem dL_law_499 : decode cL_law 499 = .ok (.iaload, 1) := by decide +kernel
theorem dL_law_500 : decode cL_law 500 = .ok (.invokevirtual 55, 3) := by decide +kernel
theorem dL_law_503 : decode cL_law 503 = .ok (.if_icmp .eq 701, 3) := by decide +kernel
theorem dL_law_506 : decode cL_law 506 = .ok (.iconst 0, 1) := by decide +kernel
theorem dL_law_507 : decode cL_law 507 = .ok (.ireturn, 1) := by decide +kernel
theorem dL_law_508 : decode cL_law 508 = .ok (.aload_n 1, 1) := by decide +kernel
theorem dL_law_509 : decode cL_law 509 = .ok (.aload_n 0, 1) := by decide +kernel
theorem dL_law_510 : decode cL_law 510 = .ok (.iload_n 3, 1) := by decide +kernel
theorem dL_law_511 : decode cL_law 511 = .ok (.iconst 1, 1) := by decide +kernel
theorem dL_law_512 : decode cL_law 512 = .ok (.iadd, 1) := by decide +kernel
theorem dL_law_513 : decode cL_law 513 = .ok (.iaload, 1) := by decide +kernel
theorem dL_law_514 : decode cL_law 514 = .ok (.aload_n 0, 1) := by decide +kernel
theorem dL_law_515 : decode cL_law 515 = .ok (.iload_n 3, 1) := by decide +kernel
theorem dL_law_516 : decode cL_law 516 = .ok (.iconst 2, 1) := by decide +kernel
theorem dL_law_517 : decode cL_law 517 = .ok (.iadd, 1) := by decide +kernel
theorem dL_law_518 : decode cL_law 518 = .ok (.iaload, 1) := by decide +kernel
theorem dL_law_519 : decode cL_law 519 = .ok (.aload_n 0, 1) := by decide +kernel
theorem dL_law_520 : decode cL_law 520 = .ok (.iload_n 3, 1) := by decide +kernel
theorem dL_law_521 : decode cL_law 521 = .ok (.iconst 3, 1) := by decide +kernel
theorem dL_law_522 : decode cL_law 522 = .ok (.iadd, 1) := by decide +kernel
theorem dL_law_523 : decode cL_law 523 = .ok (.iaload, 1) := by decide +kernel
theorem dL_law_524 : decode cL_law 524 = .ok (.invokevirtual 56, 3) := by decide +kernel
theorem dL_law_527 : decode cL_law 527 = .ok (.aload_n 2, 1) := by decide +kernel
theorem dL_law_528 : decode cL_law 528 = .ok (.aload_n 0, 1) := by decide +kernel
theorem dL_law_529 : decode cL_law 529 = .ok (.iload_n 3, 1) := by decide +kernel
theorem dL_law_530 : decode cL_law 530 = .ok (.iconst 1, 1) := by decide +kernel
theorem dL_law_531 : decode cL_law 531 = .ok (.iadd, 1) := by decide +kernel
theorem dL_law_532 : decode cL_law 532 = .ok (.iaload, 1) := by decide +kernel
theorem dL_law_533 : decode cL_law 533 = .ok (.aload_n 0, 1) := by decide +kernel
theorem dL_law_534 : decode cL_law 534 = .ok (.iload_n 3, 1) := by decide +kernel
theorem dL_law_535 : decode cL_law 535 = .ok (.iconst 2, 1) := by decide +kernel
theorem dL_law_536 : decode cL_law 536 = .ok (.iadd, 1) := by decide +kernel
theorem dL_law_537 : decode cL_law 537 = .ok (.iaload, 1) := by decide +kernel
theorem dL_law_538 : decode cL_law 538 = .ok (.aload_n 0, 1) := by decide +kernel
theorem dL_law_539 : decode cL_law 539 = .ok (.iload_n 3, 1) := by decide +kernel
theorem dL_law_540 : decode cL_law 540 = .ok (.iconst 3, 1) := by decide +kernel
theorem dL_law_541 : decode cL_law 541 = .ok (.iadd, 1) := by decide +kernel
theorem dL_law_542 : decode cL_law 542 = .ok (.iaload, 1) := by decide +kernel
theorem dL_law_543 : decode cL_law 543 = .ok (.invokevirtual 59, 3) := by decide +kernel
theorem dL_law_546 : decode cL_law 546 = .ok (.if_icmp .eq 658, 3) := by decide +kernel
theorem dL_law_549 : decode cL_law 549 = .ok (.iconst 0, 1) := by decide +kernel
theorem dL_law_550 : decode cL_law 550 = .ok (.ireturn, 1) := by decide +kernel
theorem dL_law_551 : decode cL_law 551 = .ok (.aload_n 1, 1) := by decide +kernel
theorem dL_law_552 : decode cL_law 552 = .ok (.aload_n 0, 1) := by decide +kernel
theorem dL_law_553 : decode cL_law 553 = .ok (.iload_n 3, 1) := by decide +kernel
theorem dL_law_554 : decode cL_law 554 = .ok (.iconst 1, 1) := by decide +kernel
theorem dL_law_555 : decode cL_law 555 = .ok (.iadd, 1) := by decide +kernel
theorem dL_law_556 : decode cL_law 556 = .ok (.iaload, 1) := by decide +kernel
theorem dL_law_557 : decode cL_law 557 = .ok (.invokevirtual 60, 3) := by decide +kernel
theorem dL_law_560 : decode cL_law 560 = .ok (.aload_n 2, 1) := by decide +kernel
theorem dL_law_561 : decode cL_law 561 = .ok (.aload_n 0, 1) := by decide +kernel
theorem dL_law_562 : decode cL_law 562 = .ok (.iload_n 3, 1) := by decide +kernel
theorem dL_law_563 : decode cL_law 563 = .ok (.iconst 1, 1) := by decide +kernel
theorem dL_law_564 : decode cL_law 564 = .ok (.iadd, 1) := by decide +kernel
theorem dL_law_565 : decode cL_law 565 = .ok (.iaload, 1) := by decide +kernel
theorem dL_law_566 : decode cL_law 566 = .ok (.invokevirtual 63, 3) := by decide +kernel
theorem dL_law_569 : decode cL_law 569 = .ok (.if_icmp .eq 635, 3) := by decide +kernel
theorem dL_law_572 : decode cL_law 572 = .ok (.iconst 0, 1) := by decide +kernel
theorem dL_law_573 : decode cL_law 573 = .ok (.ireturn, 1) := by decide +kernel
theorem dL_law_574 : decode cL_law 574 = .ok (.aload_n 1, 1) := by decide +kernel
theorem dL_law_575 : decode cL_law 575 = .ok (.aload_n 0, 1) := by decide +kernel
theorem dL_law_576 : decode cL_law 576 = .ok (.iload_n 3, 1) := by decide +kernel
theorem dL_law_577 : decode cL_law 577 = .ok (.iconst 1, 1) := by decide +kernel
theorem dL_law_578 : decode cL_law 578 = .ok (.iadd, 1) := by decide +kernel
theorem dL_law_579 : decode cL_law 579 = .ok (.iaload, 1) := by decide +kernel
theorem dL_law_580 : decode cL_law 580 = .ok (.invokevirtual 64, 3) := by decide +kernel
theorem dL_law_583 : decode cL_law 583 = .ok (.aload_n 2, 1) := by decide +kernel
theorem dL_law_584 : decode cL_law 584 = .ok (.aload_n 0, 1) := by decide +kernel
theorem dL_law_585 : decode cL_law 585 = .ok (.iload_n 3, 1) := by decide +kernel
theorem dL_law_586 : decode cL_law 586 = .ok (.iconst 1, 1) := by decide +kernel
theorem dL_law_587 : decode cL_law 587 = .ok (.iadd, 1) := by decide +kernel
theorem dL_law_588 : decode cL_law 588 = .ok (.iaload, 1) := by decide +kernel
theorem dL_law_589 : decode cL_law 589 = .ok (.invokevirtual 67, 3) := by decide +kernel
theorem dL_law_592 : decode cL_law 592 = .ok (.if_icmp .eq 612, 3) := by decide +kernel
theorem dL_law_595 : decode cL_law 595 = .ok (.iconst 0, 1) := by decide +kernel
theorem dL_law_596 : decode cL_law 596 = .ok (.ireturn, 1) := by decide +kernel
theorem dL_law_597 : decode cL_law 597 = .ok (.aload_n 1, 1) := by decide +kernel
theorem dL_law_598 : decode cL_law 598 = .ok (.invokevirtual 68, 3) := by decide +kernel
theorem dL_law_601 : decode cL_law 601 = .ok (.aload_n 2, 1) := by decide +kernel
theorem dL_law_602 : decode cL_law 602 = .ok (.invokevirtual 72, 3) := by decide +kernel
theorem dL_law_605 : decode cL_law 605 = .ok (.if_icmp .eq 599, 3) := by decide +kernel
theorem dL_law_608 : decode cL_law 608 = .ok (.iconst 0, 1) := by decide +kernel
theorem dL_law_609 : decode cL_law 609 = .ok (.ireturn, 1) := by decide +kernel
theorem dL_law_610 : decode cL_law 610 = .ok (.aload_n 1, 1) := by decide +kernel
theorem dL_law_611 : decode cL_law 611 = .ok (.invokevirtual 73, 3) := by decide +kernel
theorem dL_law_614 : decode cL_law 614 = .ok (.aload_n 2, 1) := by decide +kernel
theorem dL_law_615 : decode cL_law 615 = .ok (.invokevirtual 76, 3) := by decide +kernel
theorem dL_law_618 : decode cL_law 618 = .ok (.if_icmp .eq 586, 3) := by decide +kernel
theorem dL_law_621 : decode cL_law 621 = .ok (.iconst 0, 1) := by decide +kernel
theorem dL_law_622 : decode cL_law 622 = .ok (.ireturn, 1) := by decide +kernel
theorem dL_law_623 : decode cL_law 623 = .ok (.aload_n 1, 1) := by decide +kernel
theorem dL_law_624 : decode cL_law 624 = .ok (.aload_n 0, 1) := by decide +kernel
theorem dL_law_625 : decode cL_law 625 = .ok (.iload_n 3, 1) := by decide +kernel
theorem dL_law_626 : decode cL_law 626 = .ok (.iconst 1, 1) := by decide +kernel
theorem dL_law_627 : decode cL_law 627 = .ok (.iadd, 1) := by decide +kernel
theorem dL_law_628 : decode cL_law 628 = .ok (.iaload, 1) := by decide +kernel
theorem dL_law_629 : decode cL_law 629 = .ok (.invokevirtual 77, 3) := by decide +kernel
theorem dL_law_632 : decode cL_law 632 = .ok (.aload_n 2, 1) := by decide +kernel
theorem dL_law_633 : decode cL_law 633 = .ok (.aload_n 0, 1) := by decide +kernel
theorem dL_law_634 : decode cL_law 634 = .ok (.iload_n 3, 1) := by decide +kernel
theorem dL_law_635 : decode cL_law 635 = .ok (.iconst 1, 1) := by decide +kernel
theorem dL_law_636 : decode cL_law 636 = .ok (.iadd, 1) := by decide +kernel
theorem dL_law_637 : decode cL_law 637 = .ok (.iaload, 1) := by decide +kernel
theorem dL_law_638 : decode cL_law 638 = .ok (.invokevirtual 80, 3) := by decide +kernel
theorem dL_law_641 : decode cL_law 641 = .ok (.if_icmp .eq 563, 3) := by decide +kernel
theorem dL_law_644 : decode cL_law 644 = .ok (.iconst 0, 1) := by decide +kernel
theorem dL_law_645 : decode cL_law 645 = .ok (.ireturn, 1) := by decide +kernel
theorem dL_law_646 : decode cL_law 646 = .ok (.aload_n 1, 1) := by decide +kernel
theorem dL_law_647 : decode cL_law 647 = .ok (.aload_n 0, 1) := by decide +kernel
theorem dL_law_648 : decode cL_law 648 = .ok (.iload_n 3, 1) := by decide +kernel
theorem dL_law_649 : decode cL_law 649 = .ok (.iconst 1, 1) := by decide +kernel
theorem dL_law_650 : decode cL_law 650 = .ok (.iadd, 1) := by decide +kernel
theorem dL_law_651 : decode cL_law 651 = .ok (.iaload, 1) := by decide +kernel
theorem dL_law_652 : decode cL_law 652 = .ok (.aload_n 0, 1) := by decide +kernel
theorem dL_law_653 : decode cL_law 653 = .ok (.iload_n 3, 1) := by decide +kernel
theorem dL_law_654 : decode cL_law 654 = .ok (.iconst 2, 1) := by decide +kernel
theorem dL_law_655 : decode cL_law 655 = .ok (.iadd, 1) := by decide +kernel
theorem dL_law_656 : decode cL_law 656 = .ok (.iaload, 1) := by decide +kernel
theorem dL_law_657 : decode cL_law 657 = .ok (.invokevirtual 81, 3) := by decide +kernel
theorem dL_law_660 : decode cL_law 660 = .ok (.aload_n 2, 1) := by decide +kernel
theorem dL_law_661 : decode cL_law 661 = .ok (.aload_n 0, 1) := by decide +kernel
theorem dL_law_662 : decode cL_law 662 = .ok (.iload_n 3, 1) := by decide +kernel
theorem dL_law_663 : decode cL_law 663 = .ok (.iconst 1, 1) := by decide +kernel
theorem dL_law_664 : decode cL_law 664 = .ok (.iadd, 1) := by decide +kernel
theorem dL_law_665 : decode cL_law 665 = .ok (.iaload, 1) := by decide +kernel
theorem dL_law_666 : decode cL_law 666 = .ok (.aload_n 0, 1) := by decide +kernel
theorem dL_law_667 : decode cL_law 667 = .ok (.iload_n 3, 1) := by decide +kernel
theorem dL_law_668 : decode cL_law 668 = .ok (.iconst 2, 1) := by decide +kernel
theorem dL_law_669 : decode cL_law 669 = .ok (.iadd, 1) := by decide +kernel
theorem dL_law_670 : decode cL_law 670 = .ok (.iaload, 1) := by decide +kernel
theorem dL_law_671 : decode cL_law 671 = .ok (.invokevirtual 84, 3) := by decide +kernel
theorem dL_law_674 : decode cL_law 674 = .ok (.if_icmp .eq 530, 3) := by decide +kernel
theorem dL_law_677 : decode cL_law 677 = .ok (.iconst 0, 1) := by decide +kernel
theorem dL_law_678 : decode cL_law 678 = .ok (.ireturn, 1) := by decide +kernel
theorem dL_law_679 : decode cL_law 679 = .ok (.aload_n 1, 1) := by decide +kernel
theorem dL_law_680 : decode cL_law 680 = .ok (.aload_n 0, 1) := by decide +kernel
theorem dL_law_681 : decode cL_law 681 = .ok (.iload_n 3, 1) := by decide +kernel
theorem dL_law_682 : decode cL_law 682 = .ok (.iconst 1, 1) := by decide +kernel
theorem dL_law_683 : decode cL_law 683 = .ok (.iadd, 1) := by decide +kernel
theorem dL_law_684 : decode cL_law 684 = .ok (.iaload, 1) := by decide +kernel
theorem dL_law_685 : decode cL_law 685 = .ok (.aload_n 0, 1) := by decide +kernel
theorem dL_law_686 : decode cL_law 686 = .ok (.iload_n 3, 1) := by decide +kernel
theorem dL_law_687 : decode cL_law 687 = .ok (.iconst 2, 1) := by decide +kernel
theorem dL_law_688 : decode cL_law 688 = .ok (.iadd, 1) := by decide +kernel
theorem dL_law_689 : decode cL_law 689 = .ok (.iaload, 1) := by decide +kernel
theorem dL_law_690 : decode cL_law 690 = .ok (.invokevirtual 85, 3) := by decide +kernel
theorem dL_law_693 : decode cL_law 693 = .ok (.aload_n 2, 1) := by decide +kernel
theorem dL_law_694 : decode cL_law 694 = .ok (.aload_n 0, 1) := by decide +kernel
theorem dL_law_695 : decode cL_law 695 = .ok (.iload_n 3, 1) := by decide +kernel
theorem dL_law_696 : decode cL_law 696 = .ok (.iconst 1, 1) := by decide +kernel
theorem dL_law_697 : decode cL_law 697 = .ok (.iadd, 1) := by decide +kernel
theorem dL_law_698 : decode cL_law 698 = .ok (.iaload, 1) := by decide +kernel
theorem dL_law_699 : decode cL_law 699 = .ok (.aload_n 0, 1) := by decide +kernel
theorem dL_law_700 : decode cL_law 700 = .ok (.iload_n 3, 1) := by decide +kernel
theorem dL_law_701 : decode cL_law 701 = .ok (.iconst 2, 1) := by decide +kernel
theorem dL_law_702 : decode cL_law 702 = .ok (.iadd, 1) := by decide +kernel
theorem dL_law_703 : decode cL_law 703 = .ok (.iaload, 1) := by decide +kernel
theorem dL_law_704 : decode cL_law 704 = .ok (.invokevirtual 88, 3) := by decide +kernel
theorem dL_law_707 : decode cL_law 707 = .ok (.if_icmp .eq 497, 3) := by decide +kernel
theorem dL_law_710 : decode cL_law 710 = .ok (.iconst 0, 1) := by decide +kernel
theorem dL_law_711 : decode cL_law 711 = .ok (.ireturn, 1) := by decide +kernel
theorem dL_law_712 : decode cL_law 712 = .ok (.aload_n 1, 1) := by decide +kernel
theorem dL_law_713 : decode cL_law 713 = .ok (.aload_n 0, 1) := by decide +kernel
theorem dL_law_714 : decode cL_law 714 = .ok (.iload_n 3, 1) := by decide +kernel
theorem dL_law_715 : decode cL_law 715 = .ok (.iconst 1, 1) := by decide +kernel
theorem dL_law_716 : decode cL_law 716 = .ok (.iadd, 1) := by decide +kernel
theorem dL_law_717 : decode cL_law 717 = .ok (.iaload, 1) := by decide +kernel
theorem dL_law_718 : decode cL_law 718 = .ok (.invokevirtual 89, 3) := by decide +kernel
theorem dL_law_721 : decode cL_law 721 = .ok (.aload_n 2, 1) := by decide +kernel
theorem dL_law_722 : decode cL_law 722 = .ok (.aload_n 0, 1) := by decide +kernel
theorem dL_law_723 : decode cL_law 723 = .ok (.iload_n 3, 1) := by decide +kernel
theorem dL_law_724 : decode cL_law 724 = .ok (.iconst 1, 1) := by decide +kernel
theorem dL_law_725 : decode cL_law 725 = .ok (.iadd, 1) := by decide +kernel
theorem dL_law_726 : decode cL_law 726 = .ok (.iaload, 1) := by decide +kernel
theorem dL_law_727 : decode cL_law 727 = .ok (.invokevirtual 92, 3) := by decide +kernel
theorem dL_law_730 : decode cL_law 730 = .ok (.if_icmp .eq 474, 3) := by decide +kernel
theorem dL_law_733 : decode cL_law 733 = .ok (.iconst 0, 1) := by decide +kernel
theorem dL_law_734 : decode cL_law 734 = .ok (.ireturn, 1) := by decide +kernel
theorem dL_law_735 : decode cL_law 735 = .ok (.aload_n 1, 1) := by decide +kernel
theorem dL_law_736 : decode cL_law 736 = .ok (.aload_n 0, 1) := by decide +kernel
theorem dL_law_737 : decode cL_law 737 = .ok (.iload_n 3, 1) := by decide +kernel
theorem dL_law_738 : decode cL_law 738 = .ok (.iconst 1, 1) := by decide +kernel
theorem dL_law_739 : decode cL_law 739 = .ok (.iadd, 1) := by decide +kernel
theorem dL_law_740 : decode cL_law 740 = .ok (.iaload, 1) := by decide +kernel
theorem dL_law_741 : decode cL_law 741 = .ok (.invokevirtual 93, 3) := by decide +kernel
theorem dL_law_744 : decode cL_law 744 = .ok (.aload_n 2, 1) := by decide +kernel
theorem dL_law_745 : decode cL_law 745 = .ok (.aload_n 0, 1) := by decide +kernel
theorem dL_law_746 : decode cL_law 746 = .ok (.iload_n 3, 1) := by decide +kernel
theorem dL_law_747 : decode cL_law 747 = .ok (.iconst 1, 1) := by decide +kernel
theorem dL_law_748 : decode cL_law 748 = .ok (.iadd, 1) := by decide +kernel
theorem dL_law_749 : decode cL_law 749 = .ok (.iaload, 1) := by decide +kernel
theorem dL_law_750 : decode cL_law 750 = .ok (.invokevirtual 96, 3) := by decide +kernel
theorem dL_law_753 : decode cL_law 753 = .ok (.if_icmp .eq 451, 3) := by decide +kernel
theorem dL_law_756 : decode cL_law 756 = .ok (.iconst 0, 1) := by decide +kernel
theorem dL_law_757 : decode cL_law 757 = .ok (.ireturn, 1) := by decide +kernel
theorem dL_law_758 : decode cL_law 758 = .ok (.aload_n 1, 1) := by decide +kernel
theorem dL_law_759 : decode cL_law 759 = .ok (.aload_n 0, 1) := by decide +kernel
theorem dL_law_760 : decode cL_law 760 = .ok (.iload_n 3, 1) := by decide +kernel
theorem dL_law_761 : decode cL_law 761 = .ok (.iconst 1, 1) := by decide +kernel
theorem dL_law_762 : decode cL_law 762 = .ok (.iadd, 1) := by decide +kernel
theorem dL_law_763 : decode cL_law 763 = .ok (.iaload, 1) := by decide +kernel
theorem dL_law_764 : decode cL_law 764 = .ok (.aload_n 0, 1) := by decide +kernel
theorem dL_law_765 : decode cL_law 765 = .ok (.iload_n 3, 1) := by decide +kernel
theorem dL_law_766 : decode cL_law 766 = .ok (.iconst 2, 1) := by decide +kernel
theorem dL_law_767 : decode cL_law 767 = .ok (.iadd, 1) := by decide +kernel
theorem dL_law_768 : decode cL_law 768 = .ok (.iaload, 1) := by decide +kernel
theorem dL_law_769 : decode cL_law 769 = .ok (.invokevirtual 97, 3) := by decide +kernel
theorem dL_law_772 : decode cL_law 772 = .ok (.aload_n 2, 1) := by decide +kernel
theorem dL_law_773 : decode cL_law 773 = .ok (.aload_n 0, 1) := by decide +kernel
theorem dL_law_774 : decode cL_law 774 = .ok (.iload_n 3, 1) := by decide +kernel
theorem dL_law_775 : decode cL_law 775 = .ok (.iconst 1, 1) := by decide +kernel
theorem dL_law_776 : decode cL_law 776 = .ok (.iadd, 1) := by decide +kernel
theorem dL_law_777 : decode cL_law 777 = .ok (.iaload, 1) := by decide +kernel
theorem dL_law_778 : decode cL_law 778 = .ok (.aload_n 0, 1) := by decide +kernel
theorem dL_law_779 : decode cL_law 779 = .ok (.iload_n 3, 1) := by decide +kernel
theorem dL_law_780 : decode cL_law 780 = .ok (.iconst 2, 1) := by decide +kernel
theorem dL_law_781 : decode cL_law 781 = .ok (.iadd, 1) := by decide +kernel
theorem dL_law_782 : decode cL_law 782 = .ok (.iaload, 1) := by decide +kernel
theorem dL_law_783 : decode cL_law 783 = .ok (.invokevirtual 100, 3) := by decide +kernel
theorem dL_law_786 : decode cL_law 786 = .ok (.if_icmp .eq 418, 3) := by decide +kernel
theorem dL_law_789 : decode cL_law 789 = .ok (.iconst 0, 1) := by decide +kernel
theorem dL_law_790 : decode cL_law 790 = .ok (.ireturn, 1) := by decide +kernel
theorem dL_law_791 : decode cL_law 791 = .ok (.aload_n 1, 1) := by decide +kernel
theorem dL_law_792 : decode cL_law 792 = .ok (.aload_n 0, 1) := by decide +kernel
theorem dL_law_793 : decode cL_law 793 = .ok (.iload_n 3, 1) := by decide +kernel
theorem dL_law_794 : decode cL_law 794 = .ok (.iconst 1, 1) := by decide +kernel
theorem dL_law_795 : decode cL_law 795 = .ok (.iadd, 1) := by decide +kernel
theorem dL_law_796 : decode cL_law 796 = .ok (.iaload, 1) := by decide +kernel
theorem dL_law_797 : decode cL_law 797 = .ok (.aload_n 0, 1) := by decide +kernel
theorem dL_law_798 : decode cL_law 798 = .ok (.iload_n 3, 1) := by decide +kernel
theorem dL_law_799 : decode cL_law 799 = .ok (.iconst 2, 1) := by decide +kernel
theorem dL_law_800 : decode cL_law 800 = .ok (.iadd, 1) := by decide +kernel
theorem dL_law_801 : decode cL_law 801 = .ok (.iaload, 1) := by decide +kernel
theorem dL_law_802 : decode cL_law 802 = .ok (.invokevirtual 101, 3) := by decide +kernel
theorem dL_law_805 : decode cL_law 805 = .ok (.aload_n 2, 1) := by decide +kernel
theorem dL_law_806 : decode cL_law 806 = .ok (.aload_n 0, 1) := by decide +kernel
theorem dL_law_807 : decode cL_law 807 = .ok (.iload_n 3, 1) := by decide +kernel
theorem dL_law_808 : decode cL_law 808 = .ok (.iconst 1, 1) := by decide +kernel
theorem dL_law_809 : decode cL_law 809 = .ok (.iadd, 1) := by decide +kernel
theorem dL_law_810 : decode cL_law 810 = .ok (.iaload, 1) := by decide +kernel
theorem dL_law_811 : decode cL_law 811 = .ok (.aload_n 0, 1) := by decide +kernel
theorem dL_law_812 : decode cL_law 812 = .ok (.iload_n 3, 1) := by decide +kernel
theorem dL_law_813 : decode cL_law 813 = .ok (.iconst 2, 1) := by decide +kernel
theorem dL_law_814 : decode cL_law 814 = .ok (.iadd, 1) := by decide +kernel
theorem dL_law_815 : decode cL_law 815 = .ok (.iaload, 1) := by decide +kernel
theorem dL_law_816 : decode cL_law 816 = .ok (.invokevirtual 104, 3) := by decide +kernel
theorem dL_law_819 : decode cL_law 819 = .ok (.if_icmp .eq 385, 3) := by decide +kernel
theorem dL_law_822 : decode cL_law 822 = .ok (.iconst 0, 1) := by decide +kernel
theorem dL_law_823 : decode cL_law 823 = .ok (.ireturn, 1) := by decide +kernel
theorem dL_law_824 : decode cL_law 824 = .ok (.aload_n 1, 1) := by decide +kernel
theorem dL_law_825 : decode cL_law 825 = .ok (.invokevirtual 105, 3) := by decide +kernel
theorem dL_law_828 : decode cL_law 828 = .ok (.aload_n 2, 1) := by decide +kernel
theorem dL_law_829 : decode cL_law 829 = .ok (.invokevirtual 108, 3) := by decide +kernel
theorem dL_law_832 : decode cL_law 832 = .ok (.if_icmp .eq 372, 3) := by decide +kernel
theorem dL_law_835 : decode cL_law 835 = .ok (.iconst 0, 1) := by decide +kernel
theorem dL_law_836 : decode cL_law 836 = .ok (.ireturn, 1) := by decide +kernel
theorem dL_law_837 : decode cL_law 837 = .ok (.aload_n 1, 1) := by decide +kernel
theorem dL_law_838 : decode cL_law 838 = .ok (.invokevirtual 109, 3) := by decide +kernel
theorem dL_law_841 : decode cL_law 841 = .ok (.aload_n 2, 1) := by decide +kernel
theorem dL_law_842 : decode cL_law 842 = .ok (.invokevirtual 112, 3) := by decide +kernel
theorem dL_law_845 : decode cL_law 845 = .ok (.if_icmp .eq 359, 3) := by decide +kernel
theorem dL_law_848 : decode cL_law 848 = .ok (.iconst 0, 1) := by decide +kernel
theorem dL_law_849 : decode cL_law 849 = .ok (.ireturn, 1) := by decide +kernel
theorem dL_law_850 : decode cL_law 850 = .ok (.aload_n 1, 1) := by decide +kernel
theorem dL_law_851 : decode cL_law 851 = .ok (.aload_n 0, 1) := by decide +kernel
theorem dL_law_852 : decode cL_law 852 = .ok (.iload_n 3, 1) := by decide +kernel
theorem dL_law_853 : decode cL_law 853 = .ok (.iconst 1, 1) := by decide +kernel
theorem dL_law_854 : decode cL_law 854 = .ok (.iadd, 1) := by decide +kernel
theorem dL_law_855 : decode cL_law 855 = .ok (.iaload, 1) := by decide +kernel
theorem dL_law_856 : decode cL_law 856 = .ok (.aload_n 0, 1) := by decide +kernel
theorem dL_law_857 : decode cL_law 857 = .ok (.iload_n 3, 1) := by decide +kernel
theorem dL_law_858 : decode cL_law 858 = .ok (.iconst 2, 1) := by decide +kernel
theorem dL_law_859 : decode cL_law 859 = .ok (.iadd, 1) := by decide +kernel
theorem dL_law_860 : decode cL_law 860 = .ok (.iaload, 1) := by decide +kernel
theorem dL_law_861 : decode cL_law 861 = .ok (.aload_n 0, 1) := by decide +kernel
theorem dL_law_862 : decode cL_law 862 = .ok (.iload_n 3, 1) := by decide +kernel
theorem dL_law_863 : decode cL_law 863 = .ok (.iconst 3, 1) := by decide +kernel
theorem dL_law_864 : decode cL_law 864 = .ok (.iadd, 1) := by decide +kernel
theorem dL_law_865 : decode cL_law 865 = .ok (.iaload, 1) := by decide +kernel
theorem dL_law_866 : decode cL_law 866 = .ok (.invokevirtual 113, 3) := by decide +kernel
theorem dL_law_869 : decode cL_law 869 = .ok (.aload_n 2, 1) := by decide +kernel
theorem dL_law_870 : decode cL_law 870 = .ok (.aload_n 0, 1) := by decide +kernel
theorem dL_law_871 : decode cL_law 871 = .ok (.iload_n 3, 1) := by decide +kernel
theorem dL_law_872 : decode cL_law 872 = .ok (.iconst 1, 1) := by decide +kernel
theorem dL_law_873 : decode cL_law 873 = .ok (.iadd, 1) := by decide +kernel
theorem dL_law_874 : decode cL_law 874 = .ok (.iaload, 1) := by decide +kernel
theorem dL_law_875 : decode cL_law 875 = .ok (.aload_n 0, 1) := by decide +kernel
theorem dL_law_876 : decode cL_law 876 = .ok (.iload_n 3, 1) := by decide +kernel
theorem dL_law_877 : decode cL_law 877 = .ok (.iconst 2, 1) := by decide +kernel
theorem dL_law_878 : decode cL_law 878 = .ok (.iadd, 1) := by decide +kernel
theorem dL_law_879 : decode cL_law 879 = .ok (.iaload, 1) := by decide +kernel
theorem dL_law_880 : decode cL_law 880 = .ok (.aload_n 0, 1) := by decide +kernel
theorem dL_law_881 : decode cL_law 881 = .ok (.iload_n 3, 1) := by decide +kernel
theorem dL_law_882 : decode cL_law 882 = .ok (.iconst 3, 1) := by decide +kernel
theorem dL_law_883 : decode cL_law 883 = .ok (.iadd, 1) := by decide +kernel
theorem dL_law_884 : decode cL_law 884 = .ok (.iaload, 1) := by decide +kernel
theorem dL_law_885 : decode cL_law 885 = .ok (.invokevirtual 116, 3) := by decide +kernel
theorem dL_law_888 : decode cL_law 888 = .ok (.if_icmp .eq 316, 3) := by decide +kernel
theorem dL_law_891 : decode cL_law 891 = .ok (.iconst 0, 1) := by decide +kernel
theorem dL_law_892 : decode cL_law 892 = .ok (.ireturn, 1) := by decide +kernel
theorem dL_law_893 : decode cL_law 893 = .ok (.aload_n 1, 1) := by decide +kernel
theorem dL_law_894 : decode cL_law 894 = .ok (.aload_n 0, 1) := by decide +kernel
theorem dL_law_895 : decode cL_law 895 = .ok (.iload_n 3, 1) := by decide +kernel
theorem dL_law_896 : decode cL_law 896 = .ok (.iconst 1, 1) := by decide +kernel
theorem dL_law_897 : decode cL_law 897 = .ok (.iadd, 1) := by decide +kernel
theorem dL_law_898 : decode cL_law 898 = .ok (.iaload, 1) := by decide +kernel
theorem dL_law_899 : decode cL_law 899 = .ok (.aload_n 0, 1) := by decide +kernel
theorem dL_law_900 : decode cL_law 900 = .ok (.iload_n 3, 1) := by decide +kernel
theorem dL_law_901 : decode cL_law 901 = .ok (.iconst 2, 1) := by decide +kernel
theorem dL_law_902 : decode cL_law 902 = .ok (.iadd, 1) := by decide +kernel
theorem dL_law_903 : decode cL_law 903 = .ok (.iaload, 1) := by decide +kernel
theorem dL_law_904 : decode cL_law 904 = .ok (.aload_n 0, 1) := by decide +kernel
theorem dL_law_905 : decode cL_law 905 = .ok (.iload_n 3, 1) := by decide +kernel
theorem dL_law_906 : decode cL_law 906 = .ok (.iconst 3, 1) := by decide +kernel
theorem dL_law_907 : decode cL_law 907 = .ok (.iadd, 1) := by decide +kernel
theorem dL_law_908 : decode cL_law 908 = .ok (.iaload, 1) := by decide +kernel
theorem dL_law_909 : decode cL_law 909 = .ok (.i2l, 1) := by decide +kernel
theorem dL_law_910 : decode cL_law 910 = .ok (.bipush 32, 2) := by decide +kernel
theorem dL_law_912 : decode cL_law 912 = .ok (.lshl, 1) := by decide +kernel
theorem dL_law_913 : decode cL_law 913 = .ok (.aload_n 0, 1) := by decide +kernel
theorem dL_law_914 : decode cL_law 914 = .ok (.iload_n 3, 1) := by decide +kernel
theorem dL_law_915 : decode cL_law 915 = .ok (.iconst 4, 1) := by decide +kernel
theorem dL_law_916 : decode cL_law 916 = .ok (.iadd, 1) := by decide +kernel
theorem dL_law_917 : decode cL_law 917 = .ok (.iaload, 1) := by decide +kernel
theorem dL_law_918 : decode cL_law 918 = .ok (.i2l, 1) := by decide +kernel
theorem dL_law_919 : decode cL_law 919 = .ok (.ldc2_w 117, 3) := by decide +kernel
theorem dL_law_922 : decode cL_law 922 = .ok (.land, 1) := by decide +kernel
theorem dL_law_923 : decode cL_law 923 = .ok (.lor, 1) := by decide +kernel
theorem dL_law_924 : decode cL_law 924 = .ok (.invokevirtual 119, 3) := by decide +kernel
theorem dL_law_927 : decode cL_law 927 = .ok (.aload_n 2, 1) := by decide +kernel
theorem dL_law_928 : decode cL_law 928 = .ok (.aload_n 0, 1) := by decide +kernel
theorem dL_law_929 : decode cL_law 929 = .ok (.iload_n 3, 1) := by decide +kernel
theorem dL_law_930 : decode cL_law 930 = .ok (.iconst 1, 1) := by decide +kernel
theorem dL_law_931 : decode cL_law 931 = .ok (.iadd, 1) := by decide +kernel
theorem dL_law_932 : decode cL_law 932 = .ok (.iaload, 1) := by decide +kernel
theorem dL_law_933 : decode cL_law 933 = .ok (.aload_n 0, 1) := by decide +kernel
theorem dL_law_934 : decode cL_law 934 = .ok (.iload_n 3, 1) := by decide +kernel
theorem dL_law_935 : decode cL_law 935 = .ok (.iconst 2, 1) := by decide +kernel
theorem dL_law_936 : decode cL_law 936 = .ok (.iadd, 1) := by decide +kernel
theorem dL_law_937 : decode cL_law 937 = .ok (.iaload, 1) := by decide +kernel
theorem dL_law_938 : decode cL_law 938 = .ok (.aload_n 0, 1) := by decide +kernel
theorem dL_law_939 : decode cL_law 939 = .ok (.iload_n 3, 1) := by decide +kernel
theorem dL_law_940 : decode cL_law 940 = .ok (.iconst 3, 1) := by decide +kernel
theorem dL_law_941 : decode cL_law 941 = .ok (.iadd, 1) := by decide +kernel
theorem dL_law_942 : decode cL_law 942 = .ok (.iaload, 1) := by decide +kernel
theorem dL_law_943 : decode cL_law 943 = .ok (.i2l, 1) := by decide +kernel
theorem dL_law_944 : decode cL_law 944 = .ok (.bipush 32, 2) := by decide +kernel
theorem dL_law_946 : decode cL_law 946 = .ok (.lshl, 1) := by decide +kernel
theorem dL_law_947 : decode cL_law 947 = .ok (.aload_n 0, 1) := by decide +kernel
theorem dL_law_948 : decode cL_law 948 = .ok (.iload_n 3, 1) := by decide +kernel
theorem dL_law_949 : decode cL_law 949 = .ok (.iconst 4, 1) := by decide +kernel
theorem dL_law_950 : decode cL_law 950 = .ok (.iadd, 1) := by decide +kernel
theorem dL_law_951 : decode cL_law 951 = .ok (.iaload, 1) := by decide +kernel
theorem dL_law_952 : decode cL_law 952 = .ok (.i2l, 1) := by decide +kernel
theorem dL_law_953 : decode cL_law 953 = .ok (.ldc2_w 117, 3) := by decide +kernel
theorem dL_law_956 : decode cL_law 956 = .ok (.land, 1) := by decide +kernel
theorem dL_law_957 : decode cL_law 957 = .ok (.lor, 1) := by decide +kernel
theorem dL_law_958 : decode cL_law 958 = .ok (.invokevirtual 123, 3) := by decide +kernel
theorem dL_law_961 : decode cL_law 961 = .ok (.lcmp, 1) := by decide +kernel
theorem dL_law_962 : decode cL_law 962 = .ok (.ifCond .eq 242, 3) := by decide +kernel
theorem dL_law_965 : decode cL_law 965 = .ok (.iconst 0, 1) := by decide +kernel
theorem dL_law_966 : decode cL_law 966 = .ok (.ireturn, 1) := by decide +kernel
theorem dL_law_967 : decode cL_law 967 = .ok (.aload_n 1, 1) := by decide +kernel
theorem dL_law_968 : decode cL_law 968 = .ok (.aload_n 0, 1) := by decide +kernel
theorem dL_law_969 : decode cL_law 969 = .ok (.iload_n 3, 1) := by decide +kernel
theorem dL_law_970 : decode cL_law 970 = .ok (.iconst 1, 1) := by decide +kernel
theorem dL_law_971 : decode cL_law 971 = .ok (.iadd, 1) := by decide +kernel
theorem dL_law_972 : decode cL_law 972 = .ok (.iaload, 1) := by decide +kernel
theorem dL_law_973 : decode cL_law 973 = .ok (.aload_n 0, 1) := by decide +kernel
theorem dL_law_974 : decode cL_law 974 = .ok (.iload_n 3, 1) := by decide +kernel
theorem dL_law_975 : decode cL_law 975 = .ok (.iconst 2, 1) := by decide +kernel
theorem dL_law_976 : decode cL_law 976 = .ok (.iadd, 1) := by decide +kernel
theorem dL_law_977 : decode cL_law 977 = .ok (.iaload, 1) := by decide +kernel
theorem dL_law_978 : decode cL_law 978 = .ok (.aload_n 0, 1) := by decide +kernel
theorem dL_law_979 : decode cL_law 979 = .ok (.iload_n 3, 1) := by decide +kernel
theorem dL_law_980 : decode cL_law 980 = .ok (.iconst 3, 1) := by decide +kernel
theorem dL_law_981 : decode cL_law 981 = .ok (.iadd, 1) := by decide +kernel
theorem dL_law_982 : decode cL_law 982 = .ok (.iaload, 1) := by decide +kernel
theorem dL_law_983 : decode cL_law 983 = .ok (.aload_n 0, 1) := by decide +kernel
theorem dL_law_984 : decode cL_law 984 = .ok (.iload_n 3, 1) := by decide +kernel
theorem dL_law_985 : decode cL_law 985 = .ok (.iconst 4, 1) := by decide +kernel
theorem dL_law_986 : decode cL_law 986 = .ok (.iadd, 1) := by decide +kernel
theorem dL_law_987 : decode cL_law 987 = .ok (.iaload, 1) := by decide +kernel
theorem dL_law_988 : decode cL_law 988 = .ok (.aload_n 0, 1) := by decide +kernel
theorem dL_law_989 : decode cL_law 989 = .ok (.iload_n 3, 1) := by decide +kernel
theorem dL_law_990 : decode cL_law 990 = .ok (.iconst 5, 1) := by decide +kernel
theorem dL_law_991 : decode cL_law 991 = .ok (.iadd, 1) := by decide +kernel
theorem dL_law_992 : decode cL_law 992 = .ok (.iaload, 1) := by decide +kernel
theorem dL_law_993 : decode cL_law 993 = .ok (.invokevirtual 124, 3) := by decide +kernel
theorem dL_law_996 : decode cL_law 996 = .ok (.aload_n 2, 1) := by decide +kernel
theorem dL_law_997 : decode cL_law 997 = .ok (.aload_n 0, 1) := by decide +kernel
theorem dL_law_998 : decode cL_law 998 = .ok (.iload_n 3, 1) := by decide +kernel
theorem dL_law_999 : decode cL_law 999 = .ok (.iconst 1, 1) := by decide +kernel
theorem dL_law_1000 : decode cL_law 1000 = .ok (.iadd, 1) := by decide +kernel
theorem dL_law_1001 : decode cL_law 1001 = .ok (.iaload, 1) := by decide +kernel
theorem dL_law_1002 : decode cL_law 1002 = .ok (.aload_n 0, 1) := by decide +kernel
theorem dL_law_1003 : decode cL_law 1003 = .ok (.iload_n 3, 1) := by decide +kernel
theorem dL_law_1004 : decode cL_law 1004 = .ok (.iconst 2, 1) := by decide +kernel
theorem dL_law_1005 : decode cL_law 1005 = .ok (.iadd, 1) := by decide +kernel
theorem dL_law_1006 : decode cL_law 1006 = .ok (.iaload, 1) := by decide +kernel
theorem dL_law_1007 : decode cL_law 1007 = .ok (.aload_n 0, 1) := by decide +kernel
theorem dL_law_1008 : decode cL_law 1008 = .ok (.iload_n 3, 1) := by decide +kernel
theorem dL_law_1009 : decode cL_law 1009 = .ok (.iconst 3, 1) := by decide +kernel
theorem dL_law_1010 : decode cL_law 1010 = .ok (.iadd, 1) := by decide +kernel
theorem dL_law_1011 : decode cL_law 1011 = .ok (.iaload, 1) := by decide +kernel
theorem dL_law_1012 : decode cL_law 1012 = .ok (.aload_n 0, 1) := by decide +kernel
theorem dL_law_1013 : decode cL_law 1013 = .ok (.iload_n 3, 1) := by decide +kernel
theorem dL_law_1014 : decode cL_law 1014 = .ok (.iconst 4, 1) := by decide +kernel
theorem dL_law_1015 : decode cL_law 1015 = .ok (.iadd, 1) := by decide +kernel
theorem dL_law_1016 : decode cL_law 1016 = .ok (.iaload, 1) := by decide +kernel
theorem dL_law_1017 : decode cL_law 1017 = .ok (.aload_n 0, 1) := by decide +kernel
theorem dL_law_1018 : decode cL_law 1018 = .ok (.iload_n 3, 1) := by decide +kernel
theorem dL_law_1019 : decode cL_law 1019 = .ok (.iconst 5, 1) := by decide +kernel
theorem dL_law_1020 : decode cL_law 1020 = .ok (.iadd, 1) := by decide +kernel
theorem dL_law_1021 : decode cL_law 1021 = .ok (.iaload, 1) := by decide +kernel
theorem dL_law_1022 : decode cL_law 1022 = .ok (.invokevirtual 128, 3) := by decide +kernel
theorem dL_law_1025 : decode cL_law 1025 = .ok (.if_icmp .eq 179, 3) := by decide +kernel
theorem dL_law_1028 : decode cL_law 1028 = .ok (.iconst 0, 1) := by decide +kernel
theorem dL_law_1029 : decode cL_law 1029 = .ok (.ireturn, 1) := by decide +kernel
theorem dL_law_1030 : decode cL_law 1030 = .ok (.aload_n 1, 1) := by decide +kernel
theorem dL_law_1031 : decode cL_law 1031 = .ok (.aload_n 0, 1) := by decide +kernel
theorem dL_law_1032 : decode cL_law 1032 = .ok (.iload_n 3, 1) := by decide +kernel
theorem dL_law_1033 : decode cL_law 1033 = .ok (.iconst 1, 1) := by decide +kernel
theorem dL_law_1034 : decode cL_law 1034 = .ok (.iadd, 1) := by decide +kernel
theorem dL_law_1035 : decode cL_law 1035 = .ok (.iaload, 1) := by decide +kernel
theorem dL_law_1036 : decode cL_law 1036 = .ok (.invokevirtual 129, 3) := by decide +kernel
theorem dL_law_1039 : decode cL_law 1039 = .ok (.aload_n 2, 1) := by decide +kernel
theorem dL_law_1040 : decode cL_law 1040 = .ok (.aload_n 0, 1) := by decide +kernel
theorem dL_law_1041 : decode cL_law 1041 = .ok (.iload_n 3, 1) := by decide +kernel
theorem dL_law_1042 : decode cL_law 1042 = .ok (.iconst 1, 1) := by decide +kernel
theorem dL_law_1043 : decode cL_law 1043 = .ok (.iadd, 1) := by decide +kernel
theorem dL_law_1044 : decode cL_law 1044 = .ok (.iaload, 1) := by decide +kernel
theorem dL_law_1045 : decode cL_law 1045 = .ok (.invokevirtual 132, 3) := by decide +kernel
theorem dL_law_1048 : decode cL_law 1048 = .ok (.if_icmp .eq 156, 3) := by decide +kernel
theorem dL_law_1051 : decode cL_law 1051 = .ok (.iconst 0, 1) := by decide +kernel
theorem dL_law_1052 : decode cL_law 1052 = .ok (.ireturn, 1) := by decide +kernel
theorem dL_law_1053 : decode cL_law 1053 = .ok (.aload_n 1, 1) := by decide +kernel
theorem dL_law_1054 : decode cL_law 1054 = .ok (.aload_n 0, 1) := by decide +kernel
theorem dL_law_1055 : decode cL_law 1055 = .ok (.iload_n 3, 1) := by decide +kernel
theorem dL_law_1056 : decode cL_law 1056 = .ok (.iconst 1, 1) := by decide +kernel
theorem dL_law_1057 : decode cL_law 1057 = .ok (.iadd, 1) := by decide +kernel
theorem dL_law_1058 : decode cL_law 1058 = .ok (.iaload, 1) := by decide +kernel
theorem dL_law_1059 : decode cL_law 1059 = .ok (.aload_n 0, 1) := by decide +kernel
theorem dL_law_1060 : decode cL_law 1060 = .ok (.iload_n 3, 1) := by decide +kernel
theorem dL_law_1061 : decode cL_law 1061 = .ok (.iconst 2, 1) := by decide +kernel
theorem dL_law_1062 : decode cL_law 1062 = .ok (.iadd, 1) := by decide +kernel
theorem dL_law_1063 : decode cL_law 1063 = .ok (.iaload, 1) := by decide +kernel
theorem dL_law_1064 : decode cL_law 1064 = .ok (.invokevirtual 133, 3) := by decide +kernel
theorem dL_law_1067 : decode cL_law 1067 = .ok (.aload_n 2, 1) := by decide +kernel
theorem dL_law_1068 : decode cL_law 1068 = .ok (.aload_n 0, 1) := by decide +kernel
theorem dL_law_1069 : decode cL_law 1069 = .ok (.iload_n 3, 1) := by decide +kernel
theorem dL_law_1070 : decode cL_law 1070 = .ok (.iconst 1, 1) := by decide +kernel
theorem dL_law_1071 : decode cL_law 1071 = .ok (.iadd, 1) := by decide +kernel
theorem dL_law_1072 : decode cL_law 1072 = .ok (.iaload, 1) := by decide +kernel
theorem dL_law_1073 : decode cL_law 1073 = .ok (.aload_n 0, 1) := by decide +kernel
theorem dL_law_1074 : decode cL_law 1074 = .ok (.iload_n 3, 1) := by decide +kernel
theorem dL_law_1075 : decode cL_law 1075 = .ok (.iconst 2, 1) := by decide +kernel
theorem dL_law_1076 : decode cL_law 1076 = .ok (.iadd, 1) := by decide +kernel
theorem dL_law_1077 : decode cL_law 1077 = .ok (.iaload, 1) := by decide +kernel
theorem dL_law_1078 : decode cL_law 1078 = .ok (.invokevirtual 136, 3) := by decide +kernel
theorem dL_law_1081 : decode cL_law 1081 = .ok (.if_icmp .eq 123, 3) := by decide +kernel
theorem dL_law_1084 : decode cL_law 1084 = .ok (.iconst 0, 1) := by decide +kernel
theorem dL_law_1085 : decode cL_law 1085 = .ok (.ireturn, 1) := by decide +kernel
theorem dL_law_1086 : decode cL_law 1086 = .ok (.aload_n 1, 1) := by decide +kernel
theorem dL_law_1087 : decode cL_law 1087 = .ok (.aload_n 0, 1) := by decide +kernel
theorem dL_law_1088 : decode cL_law 1088 = .ok (.iload_n 3, 1) := by decide +kernel
theorem dL_law_1089 : decode cL_law 1089 = .ok (.iconst 1, 1) := by decide +kernel
theorem dL_law_1090 : decode cL_law 1090 = .ok (.iadd, 1) := by decide +kernel
theorem dL_law_1091 : decode cL_law 1091 = .ok (.iaload, 1) := by decide +kernel
theorem dL_law_1092 : decode cL_law 1092 = .ok (.aload_n 0, 1) := by decide +kernel
theorem dL_law_1093 : decode cL_law 1093 = .ok (.iload_n 3, 1) := by decide +kernel
theorem dL_law_1094 : decode cL_law 1094 = .ok (.iconst 2, 1) := by decide +kernel
theorem dL_law_1095 : decode cL_law 1095 = .ok (.iadd, 1) := by decide +kernel
theorem dL_law_1096 : decode cL_law 1096 = .ok (.iaload, 1) := by decide +kernel
theorem dL_law_1097 : decode cL_law 1097 = .ok (.invokevirtual 137, 3) := by decide +kernel
theorem dL_law_1100 : decode cL_law 1100 = .ok (.aload_n 2, 1) := by decide +kernel
theorem dL_law_1101 : decode cL_law 1101 = .ok (.aload_n 0, 1) := by decide +kernel
theorem dL_law_1102 : decode cL_law 1102 = .ok (.iload_n 3, 1) := by decide +kernel
theorem dL_law_1103 : decode cL_law 1103 = .ok (.iconst 1, 1) := by decide +kernel
theorem dL_law_1104 : decode cL_law 1104 = .ok (.iadd, 1) := by decide +kernel
theorem dL_law_1105 : decode cL_law 1105 = .ok (.iaload, 1) := by decide +kernel
theorem dL_law_1106 : decode cL_law 1106 = .ok (.aload_n 0, 1) := by decide +kernel
theorem dL_law_1107 : decode cL_law 1107 = .ok (.iload_n 3, 1) := by decide +kernel
theorem dL_law_1108 : decode cL_law 1108 = .ok (.iconst 2, 1) := by decide +kernel
theorem dL_law_1109 : decode cL_law 1109 = .ok (.iadd, 1) := by decide +kernel
theorem dL_law_1110 : decode cL_law 1110 = .ok (.iaload, 1) := by decide +kernel
theorem dL_law_1111 : decode cL_law 1111 = .ok (.invokevirtual 140, 3) := by decide +kernel
theorem dL_law_1114 : decode cL_law 1114 = .ok (.if_icmp .eq 90, 3) := by decide +kernel
theorem dL_law_1117 : decode cL_law 1117 = .ok (.iconst 0, 1) := by decide +kernel
theorem dL_law_1118 : decode cL_law 1118 = .ok (.ireturn, 1) := by decide +kernel
theorem dL_law_1119 : decode cL_law 1119 = .ok (.aload_n 1, 1) := by decide +kernel
theorem dL_law_1120 : decode cL_law 1120 = .ok (.invokevirtual 141, 3) := by decide +kernel
theorem dL_law_1123 : decode cL_law 1123 = .ok (.aload_n 2, 1) := by decide +kernel
theorem dL_law_1124 : decode cL_law 1124 = .ok (.invokevirtual 144, 3) := by decide +kernel
theorem dL_law_1127 : decode cL_law 1127 = .ok (.if_icmp .eq 77, 3) := by decide +kernel
theorem dL_law_1130 : decode cL_law 1130 = .ok (.iconst 0, 1) := by decide +kernel
theorem dL_law_1131 : decode cL_law 1131 = .ok (.ireturn, 1) := by decide +kernel
theorem dL_law_1132 : decode cL_law 1132 = .ok (.aload_n 1, 1) := by decide +kernel
theorem dL_law_1133 : decode cL_law 1133 = .ok (.invokevirtual 145, 3) := by decide +kernel
theorem dL_law_1136 : decode cL_law 1136 = .ok (.aload_n 2, 1) := by decide +kernel
theorem dL_law_1137 : decode cL_law 1137 = .ok (.invokevirtual 148, 3) := by decide +kernel
theorem dL_law_1140 : decode cL_law 1140 = .ok (.if_icmp .eq 64, 3) := by decide +kernel
theorem dL_law_1143 : decode cL_law 1143 = .ok (.iconst 0, 1) := by decide +kernel
theorem dL_law_1144 : decode cL_law 1144 = .ok (.ireturn, 1) := by decide +kernel
theorem dL_law_1145 : decode cL_law 1145 = .ok (.aload_n 1, 1) := by decide +kernel
theorem dL_law_1146 : decode cL_law 1146 = .ok (.invokevirtual 149, 3) := by decide +kernel
theorem dL_law_1149 : decode cL_law 1149 = .ok (.aload_n 2, 1) := by decide +kernel
theorem dL_law_1150 : decode cL_law 1150 = .ok (.invokevirtual 152, 3) := by decide +kernel
theorem dL_law_1153 : decode cL_law 1153 = .ok (.if_icmp .eq 51, 3) := by decide +kernel
theorem dL_law_1156 : decode cL_law 1156 = .ok (.iconst 0, 1) := by decide +kernel
theorem dL_law_1157 : decode cL_law 1157 = .ok (.ireturn, 1) := by decide +kernel
theorem dL_law_1158 : decode cL_law 1158 = .ok (.aload_n 1, 1) := by decide +kernel
theorem dL_law_1159 : decode cL_law 1159 = .ok (.aload_n 0, 1) := by decide +kernel
theorem dL_law_1160 : decode cL_law 1160 = .ok (.iload_n 3, 1) := by decide +kernel
theorem dL_law_1161 : decode cL_law 1161 = .ok (.iconst 1, 1) := by decide +kernel
theorem dL_law_1162 : decode cL_law 1162 = .ok (.iadd, 1) := by decide +kernel
theorem dL_law_1163 : decode cL_law 1163 = .ok (.iaload, 1) := by decide +kernel
theorem dL_law_1164 : decode cL_law 1164 = .ok (.invokevirtual 153, 3) := by decide +kernel
theorem dL_law_1167 : decode cL_law 1167 = .ok (.aload_n 2, 1) := by decide +kernel
theorem dL_law_1168 : decode cL_law 1168 = .ok (.aload_n 0, 1) := by decide +kernel
theorem dL_law_1169 : decode cL_law 1169 = .ok (.iload_n 3, 1) := by decide +kernel
theorem dL_law_1170 : decode cL_law 1170 = .ok (.iconst 1, 1) := by decide +kernel
theorem dL_law_1171 : decode cL_law 1171 = .ok (.iadd, 1) := by decide +kernel
theorem dL_law_1172 : decode cL_law 1172 = .ok (.iaload, 1) := by decide +kernel
theorem dL_law_1173 : decode cL_law 1173 = .ok (.invokevirtual 156, 3) := by decide +kernel
theorem dL_law_1176 : decode cL_law 1176 = .ok (.if_icmp .eq 28, 3) := by decide +kernel
theorem dL_law_1179 : decode cL_law 1179 = .ok (.iconst 0, 1) := by decide +kernel
theorem dL_law_1180 : decode cL_law 1180 = .ok (.ireturn, 1) := by decide +kernel
theorem dL_law_1181 : decode cL_law 1181 = .ok (.aload_n 1, 1) := by decide +kernel
theorem dL_law_1182 : decode cL_law 1182 = .ok (.aload_n 0, 1) := by decide +kernel
theorem dL_law_1183 : decode cL_law 1183 = .ok (.iload_n 3, 1) := by decide +kernel
theorem dL_law_1184 : decode cL_law 1184 = .ok (.iconst 1, 1) := by decide +kernel
theorem dL_law_1185 : decode cL_law 1185 = .ok (.iadd, 1) := by decide +kernel
theorem dL_law_1186 : decode cL_law 1186 = .ok (.iaload, 1) := by decide +kernel
theorem dL_law_1187 : decode cL_law 1187 = .ok (.invokevirtual 157, 3) := by decide +kernel
theorem dL_law_1190 : decode cL_law 1190 = .ok (.aload_n 2, 1) := by decide +kernel
theorem dL_law_1191 : decode cL_law 1191 = .ok (.aload_n 0, 1) := by decide +kernel
theorem dL_law_1192 : decode cL_law 1192 = .ok (.iload_n 3, 1) := by decide +kernel
theorem dL_law_1193 : decode cL_law 1193 = .ok (.iconst 1, 1) := by decide +kernel
theorem dL_law_1194 : decode cL_law 1194 = .ok (.iadd, 1) := by decide +kernel
theorem dL_law_1195 : decode cL_law 1195 = .ok (.iaload, 1) := by decide +kernel
theorem dL_law_1196 : decode cL_law 1196 = .ok (.invokevirtual 160, 3) := by decide +kernel
theorem dL_law_1199 : decode cL_law 1199 = .ok (.if_icmp .eq 5, 3) := by decide +kernel
theorem dL_law_1202 : decode cL_law 1202 = .ok (.iconst 0, 1) := by decide +kernel
theorem dL_law_1203 : decode cL_law 1203 = .ok (.ireturn, 1) := by decide +kernel
theorem dL_law_1204 : decode cL_law 1204 = .ok (.iinc 3 6, 3) := by decide +kernel
theorem dL_law_1207 : decode cL_law 1207 = .ok (.goto (-1189), 3) := by decide +kernel
theorem dL_law_1210 : decode cL_law 1210 = .ok (.iconst 1, 1) := by decide +kernel
theorem dL_law_1211 : decode cL_law 1211 = .ok (.ireturn, 1) := by decide +kernel
