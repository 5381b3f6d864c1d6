theorem dX8_offerOn_49 : decode cX8_offerOn 49 = .ok (.iconst (-1), 1) := by decide +kernel
theorem dX8_offerOn_50 : decode cX8_offerOn 50 = .ok (.ireturn, 1) := by decide +kernel
set_option maxRecDepth 20000 in
theorem ggX8_timesOf_X8_useFrom : GoodIn wsX8_timesOf wsX8_useFrom := goodIn_ca (goodIn_r _ [7, 8, 9, 10, 11, 12, 13, 20, 21, 22, 23, 24, 25, 26, 27, 28, 29, 30, 31] (by decide +kernel) (by decide +kernel)) (goodIn_sub (fun _ h => List.mem_cons_of_mem _ (List.mem_append_right _ h)) (by decide +kernel))
set_option maxRecDepth 20000 in
theorem gX8_timesOf_X8_useFrom : GoodIn wsX8_timesOf (wsV RX8 166 RX8 yX8_useFrom wsX8_useFrom) := goodIn_app (goodIn_of _ (by decide +kernel)) ggX8_timesOf_X8_useFrom
set_option maxRecDepth 20000 in
theorem ggX8_timesOf_X10_offerAt : GoodIn wsX8_timesOf wsX10_offerAt := goodIn_ca (goodIn_r _ [18, 19, 12, 10, 13, 32, 33, 34, 35, 36] (by decide +kernel) (by decide +kernel)) (goodIn_sub (fun _ h => List.mem_cons_of_mem _ (List.mem_append_right _ h)) (by decide +kernel))
set_option maxRecDepth 20000 in
theorem gX8_timesOf_X10_offerAt : GoodIn wsX8_timesOf (wsV RX8 137 RX10 yX10_offerAt wsX10_offerAt) := goodIn_app (goodIn_of _ (by decide +kernel)) ggX8_timesOf_X10_offerAt
theorem dX8_timesOf_0 : decode cX8_timesOf 0 = .ok (.iconst 0, 1) := by decide +kernel
theorem dX8_timesOf_1 : decode cX8_timesOf 1 = .ok (.istore_n 2, 1) := by decide +kernel
theorem dX8_timesOf_2 : decode cX8_timesOf 2 = .ok (.iconst 0, 1) := by decide +kernel
theorem dX8_timesOf_3 : decode cX8_timesOf 3 = .ok (.istore_n 3, 1) := by decide +kernel
theorem dX8_timesOf_4 : decode cX8_timesOf 4 = .ok (.iload_n 3, 1) := by decide +kernel
theorem dX8_timesOf_5 : decode cX8_timesOf 5 = .ok (.bipush 7, 2) := by decide +kernel
theorem dX8_timesOf_7 : decode cX8_timesOf 7 = .ok (.if_icmp .ge 38, 3) := by decide +kernel
theorem dX8_timesOf_10 : decode cX8_timesOf 10 = .ok (.aload_n 0, 1) := by decide +kernel
theorem dX8_timesOf_11 : decode cX8_timesOf 11 = .ok (.iload_n 3, 1) := by decide +kernel
theorem dX8_timesOf_12 : decode cX8_timesOf 12 = .ok (.invokevirtual 166, 3) := by decide +kernel
theorem dX8_timesOf_15 : decode cX8_timesOf 15 = .ok (.istore 4, 2) := by decide +kernel
theorem dX8_timesOf_17 : decode cX8_timesOf 17 = .ok (.iload 4, 2) := by decide +kernel
theorem dX8_timesOf_19 : decode cX8_timesOf 19 = .ok (.iconst (-1), 1) := by decide +kernel
theorem dX8_timesOf_20 : decode cX8_timesOf 20 = .ok (.if_icmp .eq 19, 3) := by decide +kernel
theorem dX8_timesOf_23 : decode cX8_timesOf 23 = .ok (.aload_n 0, 1) := by decide +kernel
theorem dX8_timesOf_24 : decode cX8_timesOf 24 = .ok (.getfield 12, 3) := by decide +kernel
theorem dX8_timesOf_27 : decode cX8_timesOf 27 = .ok (.iload 4, 2) := by decide +kernel
theorem dX8_timesOf_29 : decode cX8_timesOf 29 = .ok (.invokevirtual 137, 3) := by decide +kernel
theorem dX8_timesOf_32 : decode cX8_timesOf 32 = .ok (.iload_n 1, 1) := by decide +kernel
theorem dX8_timesOf_33 : decode cX8_timesOf 33 = .ok (.if_icmp .ne 6, 3) := by decide +kernel
theorem dX8_timesOf_36 : decode cX8_timesOf 36 = .ok (.iinc 2 1, 3) := by decide +kernel
theorem dX8_timesOf_39 : decode cX8_timesOf 39 = .ok (.iinc 3 1, 3) := by decide +kernel
theorem dX8_timesOf_42 : decode cX8_timesOf 42 = .ok (.goto (-38), 3) := by decide +kernel
theorem dX8_timesOf_45 : decode cX8_timesOf 45 = .ok (.iload_n 2, 1) := by decide +kernel
theorem dX8_timesOf_46 : decode cX8_timesOf 46 = .ok (.ifCond .ne 18, 3) := by decide +kernel
theorem dX8_timesOf_49 : decode cX8_timesOf 49 = .ok (.aload_n 0, 1) := by decide +kernel
theorem dX8_timesOf_50 : decode cX8_timesOf 50 = .ok (.getfield 146, 3) := by decide +kernel
theorem dX8_timesOf_53 : decode cX8_timesOf 53 = .ok (.iconst 1, 1) := by decide +kernel
theorem dX8_timesOf_54 : decode cX8_timesOf 54 = .ok (.iload_n 1, 1) := by decide +kernel
theorem dX8_timesOf_55 : decode cX8_timesOf 55 = .ok (.ishl, 1) := by decide +kernel
theorem dX8_timesOf_56 : decode cX8_timesOf 56 = .ok (.iand, 1) := by decide +kernel
theorem dX8_timesOf_57 : decode cX8_timesOf 57 = .ok (.ifCond .eq 7, 3) := by decide +kernel
theorem dX8_timesOf_60 : decode cX8_timesOf 60 = .ok (.iconst 1, 1) := by decide +kernel
theorem dX8_timesOf_61 : decode cX8_timesOf 61 = .ok (.goto 4, 3) := by decide +kernel
theorem dX8_timesOf_64 : decode cX8_timesOf 64 = .ok (.iconst 0, 1) := by decide +kernel
theorem dX8_timesOf_65 : decode cX8_timesOf 65 = .ok (.istore_n 3, 1) := by decide +kernel
theorem dX8_timesOf_66 : decode cX8_timesOf 66 = .ok (.iload_n 3, 1) := by decide +kernel
theorem dX8_timesOf_67 : decode cX8_timesOf 67 = .ok (.ifCond .eq 7, 3) := by decide +kernel
theorem dX8_timesOf_70 : decode cX8_timesOf 70 = .ok (.iconst 1, 1) := by decide +kernel
theorem dX8_timesOf_71 : decode cX8_timesOf 71 = .ok (.goto 4, 3) := by decide +kernel
theorem dX8_timesOf_74 : decode cX8_timesOf 74 = .ok (.iload_n 2, 1) := by decide +kernel
theorem dX8_timesOf_75 : decode cX8_timesOf 75 = .ok (.ireturn, 1) := by decide +kernel
set_option maxRecDepth 20000 in
theorem ggX8_isPossible_X10_size : GoodIn wsX8_isPossible wsX10_size := goodIn_r _ [8, 9, 36, 37, 38, 39, 40] (by decide +kernel) (by decide +kernel)
set_option maxRecDepth 20000 in
theorem gX8_isPossible_X10_size : GoodIn wsX8_isPossible (wsV RX8 93 RX10 yX10_size wsX10_size) := goodIn_app (goodIn_of _ (by decide +kernel)) ggX8_isPossible_X10_size
set_option maxRecDepth 20000 in
theorem ggX8_isPossible_X10_offerAt : GoodIn wsX8_isPossible wsX10_offerAt := goodIn_ca (goodIn_r _ [13, 14, 15, 16, 17, 36, 37, 38, 39, 40] (by decide +kernel) (by decide +kernel)) (goodIn_sub (fun _ h => List.mem_cons_of_mem _ (List.mem_append_right _ h)) (by decide +kernel))
set_option maxRecDepth 20000 in
theorem gX8_isPossible_X10_offerAt : GoodIn wsX8_isPossible (wsV RX8 137 RX10 yX10_offerAt wsX10_offerAt) := goodIn_app (goodIn_of _ (by decide +kernel)) ggX8_isPossible_X10_offerAt
set_option maxRecDepth 20000 in
theorem ggX8_isPossible_X6_isReachedBy : GoodIn wsX8_isPossible wsX6_isReachedBy := goodIn_ca (goodIn_r _ [22, 23, 15, 16, 17, 41, 42, 43, 44, 45, 46] (by decide +kernel) (by decide +kernel)) (goodIn_sub (fun _ h => List.mem_cons_of_mem _ (List.mem_append_right _ h)) (by decide +kernel))
set_option maxRecDepth 20000 in
theorem gX8_isPossible_X6_isReachedBy : GoodIn wsX8_isPossible (wsV RX8 152 RX6 yX6_isReachedBy wsX6_isReachedBy) := goodIn_app (goodIn_of _ (by decide +kernel)) ggX8_isPossible_X6_isReachedBy
theorem dX8_isPossible_0 : decode cX8_isPossible 0 = .ok (.iconst 0, 1) := by decide +kernel
theorem dX8_isPossible_1 : decode cX8_isPossible 1 = .ok (.istore_n 2, 1) := by decide +kernel
theorem dX8_isPossible_2 : decode cX8_isPossible 2 = .ok (.iload_n 2, 1) := by decide +kernel
theorem dX8_isPossible_3 : decode cX8_isPossible 3 = .ok (.aload_n 0, 1) := by decide +kernel
theorem dX8_isPossible_4 : decode cX8_isPossible 4 = .ok (.getfield 12, 3) := by decide +kernel
theorem dX8_isPossible_7 : decode cX8_isPossible 7 = .ok (.invokevirtual 93, 3) := by decide +kernel
theorem dX8_isPossible_10 : decode cX8_isPossible 10 = .ok (.if_icmp .ge 23, 3) := by decide +kernel
theorem dX8_isPossible_13 : decode cX8_isPossible 13 = .ok (.aload_n 0, 1) := by decide +kernel
theorem dX8_isPossible_14 : decode cX8_isPossible 14 = .ok (.getfield 12, 3) := by decide +kernel
theorem dX8_isPossible_17 : decode cX8_isPossible 17 = .ok (.iload_n 2, 1) := by decide +kernel
theorem dX8_isPossible_18 : decode cX8_isPossible 18 = .ok (.invokevirtual 137, 3) := by decide +kernel
theorem dX8_isPossible_21 : decode cX8_isPossible 21 = .ok (.iload_n 1, 1) := by decide +kernel
theorem dX8_isPossible_22 : decode cX8_isPossible 22 = .ok (.if_icmp .ne 5, 3) := by decide +kernel
theorem dX8_isPossible_25 : decode cX8_isPossible 25 = .ok (.iconst 1, 1) := by decide +kernel
theorem dX8_isPossible_26 : decode cX8_isPossible 26 = .ok (.ireturn, 1) := by decide +kernel
theorem dX8_isPossible_27 : decode cX8_isPossible 27 = .ok (.iinc 2 1, 3) := by decide +kernel
theorem dX8_isPossible_30 : decode cX8_isPossible 30 = .ok (.goto (-28), 3) := by decide +kernel
theorem dX8_isPossible_33 : decode cX8_isPossible 33 = .ok (.aload_n 0, 1) := by decide +kernel
theorem dX8_isPossible_34 : decode cX8_isPossible 34 = .ok (.getfield 38, 3) := by decide +kernel
theorem dX8_isPossible_37 : decode cX8_isPossible 37 = .ok (.iload_n 1, 1) := by decide +kernel
theorem dX8_isPossible_38 : decode cX8_isPossible 38 = .ok (.aload_n 0, 1) := by decide +kernel
theorem dX8_isPossible_39 : decode cX8_isPossible 39 = .ok (.getfield 66, 3) := by decide +kernel
theorem dX8_isPossible_42 : decode cX8_isPossible 42 = .ok (.invokevirtual 152, 3) := by decide +kernel
theorem dX8_isPossible_45 : decode cX8_isPossible 45 = .ok (.ireturn, 1) := by decide +kernel
set_option maxRecDepth 20000 in
theorem ggX8_usesRivalOf_X6_rivalsOf : GoodIn wsX8_usesRivalOf wsX6_rivalsOf := goodIn_ca (goodIn_r _ [7, 8, 9, 10, 11, 24, 25, 26, 27, 28, 29] (by decide +kernel) (by decide +kernel)) (goodIn_sub (fun _ h => List.mem_cons_of_mem _ (List.mem_append_right _ h)) (by decide +kernel))
set_option maxRecDepth 20000 in
theorem gX8_usesRivalOf_X6_rivalsOf : GoodIn wsX8_usesRivalOf (wsV RX8 143 RX6 yX6_rivalsOf wsX6_rivalsOf) := goodIn_app (goodIn_of _ (by decide +kernel)) ggX8_usesRivalOf_X6_rivalsOf
theorem dX8_usesRivalOf_0 : decode cX8_usesRivalOf 0 = .ok (.aload_n 0, 1) := by decide +kernel
theorem dX8_usesRivalOf_1 : decode cX8_usesRivalOf 1 = .ok (.getfield 38, 3) := by decide +kernel
theorem dX8_usesRivalOf_4 : decode cX8_usesRivalOf 4 = .ok (.iload_n 1, 1) := by decide +kernel
theorem dX8_usesRivalOf_5 : decode cX8_usesRivalOf 5 = .ok (.invokevirtual 143, 3) := by decide +kernel
theorem dX8_usesRivalOf_8 : decode cX8_usesRivalOf 8 = .ok (.aload_n 0, 1) := by decide +kernel
theorem dX8_usesRivalOf_9 : decode cX8_usesRivalOf 9 = .ok (.getfield 146, 3) := by decide +kernel
theorem dX8_usesRivalOf_12 : decode cX8_usesRivalOf 12 = .ok (.iand, 1) := by decide +kernel
theorem dX8_usesRivalOf_13 : decode cX8_usesRivalOf 13 = .ok (.ifCond .eq 7, 3) := by decide +kernel
theorem dX8_usesRivalOf_16 : decode cX8_usesRivalOf 16 = .ok (.iconst 1, 1) := by decide +kernel
theorem dX8_usesRivalOf_17 : decode cX8_usesRivalOf 17 = .ok (.goto 4, 3) := by decide +kernel
theorem dX8_usesRivalOf_20 : decode cX8_usesRivalOf 20 = .ok (.iconst 0, 1) := by decide +kernel
theorem dX8_usesRivalOf_21 : decode cX8_usesRivalOf 21 = .ok (.ireturn, 1) := by decide +kernel
set_option maxRecDepth 20000 in
theorem ggX9_init_X5_init : GoodIn wsX9_init wsX5_init := goodIn_r _ [6, 7, 8, 9, 10, 11, 16, 17, 18, 19, 20, 21, 22, 23, 24, 25, 26, 27, 28, 29, 30, 31, 32, 12, 13, 14, 15] (by decide +kernel) (by decide +kernel)
set_option maxRecDepth 20000 in
theorem gX9_init_X5_init : GoodIn wsX9_init (wsX5_init) := ggX9_init_X5_init
theorem dX9_init_0 : decode cX9_init 0 = .ok (.aload_n 0, 1) := by decide +kernel
theorem dX9_init_1 : decode cX9_init 1 = .ok (.iload_n 3, 1) := by decide +kernel
theorem dX9_init_2 : decode cX9_init 2 = .ok (.iload 4, 2) := by decide +kernel
theorem dX9_init_4 : decode cX9_init 4 = .ok (.invokespecial 1, 3) := by decide +kernel
theorem dX9_init_7 : decode cX9_init 7 = .ok (.aload_n 0, 1) := by decide +kernel
theorem dX9_init_8 : decode cX9_init 8 = .ok (.iload_n 1, 1) := by decide +kernel
theorem dX9_init_9 : decode cX9_init 9 = .ok (.putfield 7, 3) := by decide +kernel
theorem dX9_init_12 : decode cX9_init 12 = .ok (.aload_n 0, 1) := by decide +kernel
theorem dX9_init_13 : decode cX9_init 13 = .ok (.iload_n 2, 1) := by decide +kernel
theorem dX9_init_14 : decode cX9_init 14 = .ok (.putfield 13, 3) := by decide +kernel
theorem dX9_init_17 : decode cX9_init 17 = .ok (.return_, 1) := by decide +kernel
theorem dX9_threshold_0 : decode cX9_threshold 0 = .ok (.aload_n 0, 1) := by decide +kernel
theorem dX9_threshold_1 : decode cX9_threshold 1 = .ok (.getfield 7, 3) := by decide +kernel
theorem dX9_threshold_4 : decode cX9_threshold 4 = .ok (.ireturn, 1) := by decide +kernel
theorem dX9_amount_0 : decode cX9_amount 0 = .ok (.aload_n 0, 1) := by decide +kernel
theorem dX9_amount_1 : decode cX9_amount 1 = .ok (.getfield 13, 3) := by decide +kernel
theorem dX9_amount_4 : decode cX9_amount 4 = .ok (.ireturn, 1) := by decide +kernel
theorem dX10_init_0 : decode cX10_init 0 = .ok (.aload_n 0, 1) := by decide +kernel
theorem dX10_init_1 : decode cX10_init 1 = .ok (.invokespecial 3, 3) := by decide +kernel
theorem dX10_init_4 : decode cX10_init 4 = .ok (.aload_n 0, 1) := by decide +kernel
theorem dX10_init_5 : decode cX10_init 5 = .ok (.sipush 210, 3) := by decide +kernel
theorem dX10_init_8 : decode cX10_init 8 = .ok (.newarray .int, 2) := by decide +kernel
theorem dX10_init_10 : decode cX10_init 10 = .ok (.putfield 11, 3) := by decide +kernel
theorem dX10_init_13 : decode cX10_init 13 = .ok (.aload_n 0, 1) := by decide +kernel
theorem dX10_init_14 : decode cX10_init 14 = .ok (.sipush 210, 3) := by decide +kernel
theorem dX10_init_17 : decode cX10_init 17 = .ok (.newarray .int, 2) := by decide +kernel
theorem dX10_init_19 : decode cX10_init 19 = .ok (.putfield 15, 3) := by decide +kernel
theorem dX10_init_22 : decode cX10_init 22 = .ok (.aload_n 0, 1) := by decide +kernel
theorem dX10_init_23 : decode cX10_init 23 = .ok (.sipush 210, 3) := by decide +kernel
theorem dX10_init_26 : decode cX10_init 26 = .ok (.newarray .int, 2) := by decide +kernel
theorem dX10_init_28 : decode cX10_init 28 = .ok (.putfield 18, 3) := by decide +kernel
theorem dX10_init_31 : decode cX10_init 31 = .ok (.aload_n 0, 1) := by decide +kernel
theorem dX10_init_32 : decode cX10_init 32 = .ok (.bipush 8, 2) := by decide +kernel
theorem dX10_init_34 : decode cX10_init 34 = .ok (.newarray .int, 2) := by decide +kernel
theorem dX10_init_36 : decode cX10_init 36 = .ok (.putfield 21, 3) := by decide +kernel
theorem dX10_init_39 : decode cX10_init 39 = .ok (.return_, 1) := by decide +kernel
set_option maxRecDepth 20000 in
theorem ggX10_fill_X0_size : GoodIn wsX10_fill wsX0_size := goodIn_r _ [7, 8, 138, 139, 140, 141, 142] (by decide +kernel) (by decide +kernel)
set_option maxRecDepth 20000 in
theorem gX10_fill_X0_size : GoodIn wsX10_fill (wsV RX10 28 RX0 yX0_size wsX0_size) := goodIn_app (goodIn_of _ (by decide +kernel)) ggX10_fill_X0_size
set_option maxRecDepth 20000 in
theorem ggX10_fill_X11_setAt : GoodIn wsX10_fill wsX11_setAt := goodIn_ca (goodIn_r _ [11] (by decide +kernel) (by decide +kernel)) (goodIn_sub (fun _ h => List.mem_cons_of_mem _ (List.mem_append_right _ h)) (by decide +kernel))
set_option maxRecDepth 20000 in
theorem gX10_fill_X11_setAt_n33 : GoodIn wsX10_fill (wsX11_setAt) := ggX10_fill_X11_setAt
set_option maxRecDepth 20000 in
theorem ggX10_fill_X6_size : GoodIn wsX10_fill wsX6_size := goodIn_r _ [16, 17, 143, 144, 145, 146, 147, 148] (by decide +kernel) (by decide +kernel)
set_option maxRecDepth 20000 in
theorem gX10_fill_X6_size : GoodIn wsX10_fill (wsV RX10 37 RX6 yX6_size wsX6_size) := goodIn_app (goodIn_of _ (by decide +kernel)) ggX10_fill_X6_size
set_option maxRecDepth 20000 in
theorem ggX10_fill_X6_leftFor : GoodIn wsX10_fill wsX6_leftFor := goodIn_ca (goodIn_r _ [21, 22, 23, 24, 25, 15, 26, 27, 28, 29, 30, 31, 32, 33, 34, 35, 36, 37, 38, 10, 39, 143, 144, 145, 146, 147, 148, 149, 150, 151, 152, 153, 154, 155, 156, 157, 158, 159, 160, 161, 162, 163, 164, 165, 166, 167, 168, 169] (by decide +kernel) (by decide +kernel)) (goodIn_sub (fun _ h => List.mem_cons_of_mem _ (List.mem_append_right _ h)) (by decide +kernel))
set_option maxRecDepth 20000 in
theorem gX10_fill_X6_leftFor : GoodIn wsX10_fill (wsV RX10 40 RX6 yX6_leftFor wsX6_leftFor) := goodIn_app (goodIn_of _ (by decide +kernel)) ggX10_fill_X6_leftFor
set_option maxRecDepth 20000 in
theorem ggX10_fill_X6_entryOf : GoodIn wsX10_fill wsX6_entryOf := goodIn_r _ [26, 27, 143, 144, 145, 146, 147, 148] (by decide +kernel) (by decide +kernel)
set_option maxRecDepth 20000 in
theorem gX10_fill_X6_entryOf : GoodIn wsX10_fill (wsV RX10 44 RX6 yX6_entryOf wsX6_entryOf) := goodIn_app (goodIn_of _ (by decide +kernel)) ggX10_fill_X6_entryOf
set_option maxRecDepth 20000 in
theorem ggX10_fill_X10_addUses : GoodIn wsX10_fill wsX10_addUses := goodIn_ca (goodIn_r _ [45, 46, 10, 47, 48, 49, 50, 6, 51, 8, 52, 53, 54, 55, 56, 57, 58, 59, 60, 61, 62, 63, 64, 65, 66, 67, 68, 69, 70, 71, 72, 73, 74, 75, 76, 77, 78, 32, 79, 80, 81, 82, 83, 84, 85, 86, 87, 88, 89, 90, 91, 92, 93, 94, 95, 96, 97, 38, 39, 98, 99, 100, 101, 102, 103, 104, 105, 106, 107, 108, 109, 110, 111, 112, 113, 114, 115, 116, 117, 118, 119, 120, 121, 122, 123, 124, 125, 126, 127, 128, 44, 129, 1, 130, 131, 132, 9, 11, 138, 139, 140, 141, 142, 149, 150, 151, 152, 153, 154, 155, 156, 157, 158, 159, 160, 161, 162, 163, 164, 165, 133, 134, 135, 136, 137] (by decide +kernel) (by decide +kernel)) (goodIn_sub (fun _ h => List.mem_cons_of_mem _ (List.mem_append_right _ h)) (by decide +kernel))
set_option maxRecDepth 20000 in
theorem gX10_fill_X10_addUses : GoodIn wsX10_fill (wsV RX10 48 RX10 yX10_addUses wsX10_addUses) := goodIn_app (goodIn_of _ (by decide +kernel)) ggX10_fill_X10_addUses
theorem dX10_fill_0 : decode cX10_fill 0 = .ok (.aload_n 0, 1) := by decide +kernel
theorem dX10_fill_1 : decode cX10_fill 1 = .ok (.iconst 0, 1) := by decide +kernel
theorem dX10_fill_2 : decode cX10_fill 2 = .ok (.putfield 24, 3) := by decide +kernel
theorem dX10_fill_5 : decode cX10_fill 5 = .ok (.iconst 0, 1) := by decide +kernel
theorem dX10_fill_6 : decode cX10_fill 6 = .ok (.istore 4, 2) := by decide +kernel
theorem dX10_fill_8 : decode cX10_fill 8 = .ok (.iload 4, 2) := by decide +kernel
theorem dX10_fill_10 : decode cX10_fill 10 = .ok (.aload_n 1, 1) := by decide +kernel
theorem dX10_fill_11 : decode cX10_fill 11 = .ok (.invokevirtual 28, 3) := by decide +kernel
theorem dX10_fill_14 : decode cX10_fill 14 = .ok (.if_icmp .ge 65, 3) := by decide +kernel
theorem dX10_fill_17 : decode cX10_fill 17 = .ok (.aload_n 0, 1) := by decide +kernel
theorem dX10_fill_18 : decode cX10_fill 18 = .ok (.getfield 21, 3) := by decide +kernel
theorem dX10_fill_21 : decode cX10_fill 21 = .ok (.iload 4, 2) := by decide +kernel
theorem dX10_fill_23 : decode cX10_fill 23 = .ok (.aload_n 0, 1) := by decide +kernel
theorem dX10_fill_24 : decode cX10_fill 24 = .ok (.getfield 24, 3) := by decide +kernel
theorem dX10_fill_27 : decode cX10_fill 27 = .ok (.invokestatic 33, 3) := by decide +kernel
theorem dX10_fill_30 : decode cX10_fill 30 = .ok (.iconst 0, 1) := by decide +kernel
theorem dX10_fill_31 : decode cX10_fill 31 = .ok (.istore 5, 2) := by decide +kernel
theorem dX10_fill_33 : decode cX10_fill 33 = .ok (.iload 5, 2) := by decide +kernel
theorem dX10_fill_35 : decode cX10_fill 35 = .ok (.aload_n 2, 1) := by decide +kernel
theorem dX10_fill_36 : decode cX10_fill 36 = .ok (.invokevirtual 37, 3) := by decide +kernel
theorem dX10_fill_39 : decode cX10_fill 39 = .ok (.if_icmp .ge 34, 3) := by decide +kernel
theorem dX10_fill_42 : decode cX10_fill 42 = .ok (.aload_n 2, 1) := by decide +kernel
theorem dX10_fill_43 : decode cX10_fill 43 = .ok (.iload_n 3, 1) := by decide +kernel
theorem dX10_fill_44 : decode cX10_fill 44 = .ok (.iload 5, 2) := by decide +kernel
theorem dX10_fill_46 : decode cX10_fill 46 = .ok (.invokevirtual 40, 3) := by decide +kernel
theorem dX10_fill_49 : decode cX10_fill 49 = .ok (.ifCond .le 18, 3) := by decide +kernel
theorem dX10_fill_52 : decode cX10_fill 52 = .ok (.aload_n 0, 1) := by decide +kernel
theorem dX10_fill_53 : decode cX10_fill 53 = .ok (.iload 5, 2) := by decide +kernel
theorem dX10_fill_55 : decode cX10_fill 55 = .ok (.aload_n 2, 1) := by decide +kernel
theorem dX10_fill_56 : decode cX10_fill 56 = .ok (.iload 5, 2) := by decide +kernel
theorem dX10_fill_58 : decode cX10_fill 58 = .ok (.invokevirtual 44, 3) := by decide +kernel
theorem dX10_fill_61 : decode cX10_fill 61 = .ok (.aload_n 1, 1) := by decide +kernel
theorem dX10_fill_62 : decode cX10_fill 62 = .ok (.iload 4, 2) := by decide +kernel
theorem dX10_fill_64 : decode cX10_fill 64 = .ok (.invokevirtual 48, 3) := by decide +kernel
theorem dX10_fill_67 : decode cX10_fill 67 = .ok (.iinc 5 1, 3) := by decide +kernel
theorem dX10_fill_70 : decode cX10_fill 70 = .ok (.goto (-37), 3) := by decide +kernel
theorem dX10_fill_73 : decode cX10_fill 73 = .ok (.iinc 4 1, 3) := by decide +kernel
theorem dX10_fill_76 : decode cX10_fill 76 = .ok (.goto (-68), 3) := by decide +kernel
theorem dX10_fill_79 : decode cX10_fill 79 = .ok (.aload_n 1, 1) := by decide +kernel
theorem dX10_fill_80 : decode cX10_fill 80 = .ok (.invokevirtual 28, 3) := by decide +kernel
theorem dX10_fill_83 : decode cX10_fill 83 = .ok (.istore 4, 2) := by decide +kernel
theorem dX10_fill_85 : decode cX10_fill 85 = .ok (.iload 4, 2) := by decide +kernel
theorem dX10_fill_87 : decode cX10_fill 87 = .ok (.bipush 7, 2) := by decide +kernel
theorem dX10_fill_89 : decode cX10_fill 89 = .ok (.if_icmp .gt 22, 3) := by decide +kernel
theorem dX10_fill_92 : decode cX10_fill 92 = .ok (.aload_n 0, 1) := by decide +kernel
theorem dX10_fill_93 : decode cX10_fill 93 = .ok (.getfield 21, 3) := by decide +kernel
theorem dX10_fill_96 : decode cX10_fill 96 = .ok (.iload 4, 2) := by decide +kernel
theorem dX10_fill_98 : decode cX10_fill 98 = .ok (.aload_n 0, 1) := by decide +kernel
theorem dX10_fill_99 : decode cX10_fill 99 = .ok (.getfield 24, 3) := by decide +kernel
theorem dX10_fill_102 : decode cX10_fill 102 = .ok (.invokestatic 33, 3) := by decide +kernel
theorem dX10_fill_105 : decode cX10_fill 105 = .ok (.iinc 4 1, 3) := by decide +kernel
theorem dX10_fill_108 : decode cX10_fill 108 = .ok (.goto (-23), 3) := by decide +kernel
theorem dX10_fill_111 : decode cX10_fill 111 = .ok (.return_, 1) := by decide +kernel
set_option maxRecDepth 20000 in
theorem ggX10_addUses_X11_bitOf : GoodIn wsX10_addUses wsX11_bitOf := goodIn_r _ [3] (by decide +kernel) (by decide +kernel)
set_option maxRecDepth 20000 in
theorem gX10_addUses_X11_bitOf_n52 : GoodIn wsX10_addUses (wsX11_bitOf) := ggX10_addUses_X11_bitOf
set_option maxRecDepth 20000 in
theorem ggX10_addUses_X0_mask : GoodIn wsX10_addUses wsX0_mask := goodIn_r _ [8, 9, 1, 2, 3, 98, 99, 100, 101, 102] (by decide +kernel) (by decide +kernel)
set_option maxRecDepth 20000 in
theorem gX10_addUses_X0_mask : GoodIn wsX10_addUses (wsV RX10 56 RX0 yX0_mask wsX0_mask) := goodIn_app (goodIn_of _ (by decide +kernel)) ggX10_addUses_X0_mask
set_option maxRecDepth 20000 in
theorem ggX10_addUses_J6_bitCount_0f7a4 : GoodIn wsX10_addUses wsJ6_bitCount_0f7a4 := goodIn_r _ [13, 14, 15, 16] (by decide +kernel) (by decide +kernel)
set_option maxRecDepth 20000 in
theorem gX10_addUses_J6_bitCount_0f7a4 : GoodIn wsX10_addUses (va_wsS RX10 59 yJ6_bitCount_0f7a4 wsJ6_bitCount_0f7a4) := goodIn_app (goodIn_of _ (by decide +kernel)) ggX10_addUses_J6_bitCount_0f7a4
set_option maxRecDepth 20000 in
theorem ggX10_addUses_X2_itemsTaken : GoodIn wsX10_addUses wsX2_itemsTaken := goodIn_r _ [23, 24, 103, 104, 105, 106, 107, 108, 109, 110, 111] (by decide +kernel) (by decide +kernel)
set_option maxRecDepth 20000 in
theorem gX10_addUses_X2_itemsTaken_u64X2 : GoodIn wsX10_addUses (va_wsO RX10 64 RX2 "BasketOffers$Offer" ⟨"BasketOffers$Offer", "itemsTaken", "()I"⟩ yX2_itemsTaken wsX2_itemsTaken) := goodIn_app (goodIn_of _ (by decide +kernel)) ggX10_addUses_X2_itemsTaken
set_option maxRecDepth 20000 in
theorem ggX10_addUses_X3_itemsTaken : GoodIn wsX10_addUses wsX3_itemsTaken := goodIn_r _ [29, 30, 112, 113, 114, 115] (by decide +kernel) (by decide +kernel)
set_option maxRecDepth 20000 in
theorem gX10_addUses_X3_itemsTaken_u64X3 : GoodIn wsX10_addUses (va_wsO RX10 64 RX3 "BasketOffers$Offer" ⟨"BasketOffers$Offer", "itemsTaken", "()I"⟩ yX3_itemsTaken wsX3_itemsTaken) := goodIn_app (goodIn_of _ (by decide +kernel)) ggX10_addUses_X3_itemsTaken
set_option maxRecDepth 20000 in
theorem ggX10_addUses_X7_itemsTaken : GoodIn wsX10_addUses wsX7_itemsTaken := goodIn_r _ [34] (by decide +kernel) (by decide +kernel)
set_option maxRecDepth 20000 in
theorem gX10_addUses_X7_itemsTaken_u64X7 : GoodIn wsX10_addUses (va_wsO RX10 64 RX7 "BasketOffers$Offer" ⟨"BasketOffers$Offer", "itemsTaken", "()I"⟩ yX7_itemsTaken wsX7_itemsTaken) := goodIn_app (goodIn_of _ (by decide +kernel)) ggX10_addUses_X7_itemsTaken
set_option maxRecDepth 20000 in
theorem ggX10_addUses_X5_itemsTaken : GoodIn wsX10_addUses wsX5_itemsTaken := goodIn_r _ [25] (by decide +kernel) (by decide +kernel)
set_option maxRecDepth 20000 in
theorem gX10_addUses_X5_itemsTaken_u64X9 : GoodIn wsX10_addUses (va_wsU RX10 64 RX9 "BasketOffers$Offer" ⟨"BasketOffers$Offer", "itemsTaken", "()I"⟩ yX5_itemsTaken wsX5_itemsTaken) := goodIn_app (goodIn_of _ (by decide +kernel)) ggX10_addUses_X5_itemsTaken
set_option maxRecDepth 20000 in
theorem ggX10_addUses_X2_discountOn : GoodIn wsX10_addUses wsX2_discountOn := goodIn_ca (goodIn_r _ [43, 44, 45, 46, 47, 24, 48, 49, 50, 51, 52, 7, 53, 9, 54, 55, 2, 56, 57, 58, 59, 60, 61, 62, 63, 103, 104, 105, 106, 107, 108, 109, 110, 111, 98, 99, 100, 101, 102] (by decide +kernel) (by decide +kernel)) (goodIn_sub (fun _ h => List.mem_cons_of_mem _ (List.mem_append_right _ h)) (by decide +kernel))
set_option maxRecDepth 20000 in
theorem gX10_addUses_X2_discountOn_u69X2 : GoodIn wsX10_addUses (va_wsO RX10 69 RX2 "BasketOffers$Offer" ⟨"BasketOffers$Offer", "discountOn", "(LBasketOffers$Basket;I)I"⟩ yX2_discountOn wsX2_discountOn) := goodIn_app (goodIn_of _ (by decide +kernel)) ggX10_addUses_X2_discountOn
set_option maxRecDepth 20000 in
theorem ggX10_addUses_X3_discountOn : GoodIn wsX10_addUses wsX3_discountOn := goodIn_ca (goodIn_r _ [67, 68, 30, 69, 51, 52, 7, 53, 9, 54, 55, 2, 56, 57, 58, 70, 71, 72, 73, 63, 74, 75, 76, 77, 112, 113, 114, 115, 98, 99, 100, 101, 102] (by decide +kernel) (by decide +kernel)) (goodIn_sub (fun _ h => List.mem_cons_of_mem _ (List.mem_append_right _ h)) (by decide +kernel))
set_option maxRecDepth 20000 in
theorem gX10_addUses_X3_discountOn_u69X3 : GoodIn wsX10_addUses (va_wsO RX10 69 RX3 "BasketOffers$Offer" ⟨"BasketOffers$Offer", "discountOn", "(LBasketOffers$Basket;I)I"⟩ yX3_discountOn wsX3_discountOn) := goodIn_app (goodIn_of _ (by decide +kernel)) ggX10_addUses_X3_discountOn
set_option maxRecDepth 20000 in
theorem ggX10_addUses_X7_discountOn : GoodIn wsX10_addUses wsX7_discountOn := goodIn_ca (goodIn_r _ [80, 81, 82, 83, 51, 52, 7, 53, 9, 54, 55, 2, 56, 57, 58, 84, 60, 61, 62, 63, 116, 117, 118, 119, 98, 99, 100, 101, 102] (by decide +kernel) (by decide +kernel)) (goodIn_sub (fun _ h => List.mem_cons_of_mem _ (List.mem_append_right _ h)) (by decide +kernel))
set_option maxRecDepth 20000 in
theorem gX10_addUses_X7_discountOn_u69X7 : GoodIn wsX10_addUses (va_wsO RX10 69 RX7 "BasketOffers$Offer" ⟨"BasketOffers$Offer", "discountOn", "(LBasketOffers$Basket;I)I"⟩ yX7_discountOn wsX7_discountOn) := goodIn_app (goodIn_of _ (by decide +kernel)) ggX10_addUses_X7_discountOn
set_option maxRecDepth 20000 in
theorem ggX10_addUses_X5_discountOn : GoodIn wsX10_addUses wsX5_discountOn := goodIn_r _ [64] (by decide +kernel) (by decide +kernel)
set_option maxRecDepth 20000 in
theorem gX10_addUses_X5_discountOn_u69X9 : GoodIn wsX10_addUses (va_wsU RX10 69 RX9 "BasketOffers$Offer" ⟨"BasketOffers$Offer", "discountOn", "(LBasketOffers$Basket;I)I"⟩ yX5_discountOn wsX5_discountOn) := goodIn_app (goodIn_of _ (by decide +kernel)) ggX10_addUses_X5_discountOn
set_option maxRecDepth 20000 in
theorem ggX10_addUses_X10_addUse : GoodIn wsX10_addUses wsX10_addUse := goodIn_ca (goodIn_r _ [91, 92, 93, 94, 95, 96, 2, 97, 120, 121, 122, 123, 124] (by decide +kernel) (by decide +kernel)) (goodIn_sub (fun _ h => List.mem_cons_of_mem _ (List.mem_append_right _ h)) (by decide +kernel))
set_option maxRecDepth 20000 in
theorem gX10_addUses_X10_addUse : GoodIn wsX10_addUses (wsV RX10 73 RX10 yX10_addUse wsX10_addUse) := goodIn_app (goodIn_of _ (by decide +kernel)) ggX10_addUses_X10_addUse
theorem dX10_addUses_0 : decode cX10_addUses 0 = .ok (.aload_n 2, 1) := by decide +kernel
theorem dX10_addUses_1 : decode cX10_addUses 1 = .ok (.ifnonnull 4, 3) := by decide +kernel
theorem dX10_addUses_4 : decode cX10_addUses 4 = .ok (.return_, 1) := by decide +kernel
theorem dX10_addUses_5 : decode cX10_addUses 5 = .ok (.iload 4, 2) := by decide +kernel
theorem dX10_addUses_7 : decode cX10_addUses 7 = .ok (.invokestatic 52, 3) := by decide +kernel
theorem dX10_addUses_10 : decode cX10_addUses 10 = .ok (.istore 5, 2) := by decide +kernel
theorem dX10_addUses_12 : decode cX10_addUses 12 = .ok (.aload_n 3, 1) := by decide +kernel
theorem dX10_addUses_13 : decode cX10_addUses 13 = .ok (.invokevirtual 56, 3) := by decide +kernel
theorem dX10_addUses_16 : decode cX10_addUses 16 = .ok (.iconst (-1), 1) := by decide +kernel
theorem dX10_addUses_17 : decode cX10_addUses 17 = .ok (.ixor, 1) := by decide +kernel
theorem dX10_addUses_18 : decode cX10_addUses 18 = .ok (.istore 6, 2) := by decide +kernel
theorem dX10_addUses_20 : decode cX10_addUses 20 = .ok (.iconst 2, 1) := by decide +kernel
theorem dX10_addUses_21 : decode cX10_addUses 21 = .ok (.iload 5, 2) := by decide +kernel
theorem dX10_addUses_23 : decode cX10_addUses 23 = .ok (.imul, 1) := by decide +kernel
theorem dX10_addUses_24 : decode cX10_addUses 24 = .ok (.iconst 1, 1) := by decide +kernel
theorem dX10_addUses_25 : decode cX10_addUses 25 = .ok (.isub, 1) := by decide +kernel
theorem dX10_addUses_26 : decode cX10_addUses 26 = .ok (.istore 7, 2) := by decide +kernel
theorem dX10_addUses_28 : decode cX10_addUses 28 = .ok (.iload 7, 2) := by decide +kernel
theorem dX10_addUses_30 : decode cX10_addUses 30 = .ok (.iload 5, 2) := by decide +kernel
theorem dX10_addUses_32 : decode cX10_addUses 32 = .ok (.if_icmp .lt 43, 3) := by decide +kernel
theorem dX10_addUses_35 : decode cX10_addUses 35 = .ok (.iload 7, 2) := by decide +kernel
theorem dX10_addUses_37 : decode cX10_addUses 37 = .ok (.iload 6, 2) := by decide +kernel
theorem dX10_addUses_39 : decode cX10_addUses 39 = .ok (.iand, 1) := by decide +kernel
theorem dX10_addUses_40 : decode cX10_addUses 40 = .ok (.ifCond .ne 29, 3) := by decide +kernel
theorem dX10_addUses_43 : decode cX10_addUses 43 = .ok (.iload 7, 2) := by decide +kernel
theorem dX10_addUses_45 : decode cX10_addUses 45 = .ok (.invokestatic 59, 3) := by decide +kernel
theorem dX10_addUses_48 : decode cX10_addUses 48 = .ok (.aload_n 2, 1) := by decide +kernel
theorem dX10_addUses_49 : decode cX10_addUses 49 = .ok (.invokevirtual 64, 3) := by decide +kernel
theorem dX10_addUses_52 : decode cX10_addUses 52 = .ok (.if_icmp .ne 17, 3) := by decide +kernel
theorem dX10_addUses_55 : decode cX10_addUses 55 = .ok (.aload_n 0, 1) := by decide +kernel
theorem dX10_addUses_56 : decode cX10_addUses 56 = .ok (.iload_n 1, 1) := by decide +kernel
theorem dX10_addUses_57 : decode cX10_addUses 57 = .ok (.iload 7, 2) := by decide +kernel
theorem dX10_addUses_59 : decode cX10_addUses 59 = .ok (.aload_n 2, 1) := by decide +kernel
theorem dX10_addUses_60 : decode cX10_addUses 60 = .ok (.aload_n 3, 1) := by decide +kernel
theorem dX10_addUses_61 : decode cX10_addUses 61 = .ok (.iload 7, 2) := by decide +kernel
theorem dX10_addUses_63 : decode cX10_addUses 63 = .ok (.invokevirtual 69, 3) := by decide +kernel
theorem dX10_addUses_66 : decode cX10_addUses 66 = .ok (.invokevirtual 73, 3) := by decide +kernel
theorem dX10_addUses_69 : decode cX10_addUses 69 = .ok (.iinc 7 (-1), 3) := by decide +kernel
theorem dX10_addUses_72 : decode cX10_addUses 72 = .ok (.goto (-44), 3) := by decide +kernel
theorem dX10_addUses_75 : decode cX10_addUses 75 = .ok (.return_, 1) := by decide +kernel
set_option maxRecDepth 20000 in
theorem ggX10_addUse_X11_setAt : GoodIn wsX10_addUse wsX11_setAt := goodIn_ca (goodIn_r _ [7] (by decide +kernel) (by decide +kernel)) (goodIn_sub (fun _ h => List.mem_cons_of_mem _ (List.mem_append_right _ h)) (by decide +kernel))
set_option maxRecDepth 20000 in
theorem gX10_addUse_X11_setAt_n33 : GoodIn wsX10_addUse (wsX11_setAt) := ggX10_addUse_X11_setAt
theorem dX10_addUse_0 : decode cX10_addUse 0 = .ok (.iload_n 3, 1) := by decide +kernel
theorem dX10_addUse_1 : decode cX10_addUse 1 = .ok (.iconst (-1), 1) := by decide +kernel
theorem dX10_addUse_2 : decode cX10_addUse 2 = .ok (.if_icmp .eq 13, 3) := by decide +kernel
theorem dX10_addUse_5 : decode cX10_addUse 5 = .ok (.aload_n 0, 1) := by decide +kernel
theorem dX10_addUse_6 : decode cX10_addUse 6 = .ok (.getfield 24, 3) := by decide +kernel
theorem dX10_addUse_9 : decode cX10_addUse 9 = .ok (.sipush 210, 3) := by decide +kernel
theorem dX10_addUse_12 : decode cX10_addUse 12 = .ok (.if_icmp .lt 4, 3) := by decide +kernel
theorem dX10_addUse_15 : decode cX10_addUse 15 = .ok (.return_, 1) := by decide +kernel
theorem dX10_addUse_16 : decode cX10_addUse 16 = .ok (.aload_n 0, 1) := by decide +kernel
theorem dX10_addUse_17 : decode cX10_addUse 17 = .ok (.getfield 11, 3) := by decide +kernel
theorem dX10_addUse_20 : decode cX10_addUse 20 = .ok (.aload_n 0, 1) := by decide +kernel
theorem dX10_addUse_21 : decode cX10_addUse 21 = .ok (.getfield 24, 3) := by decide +kernel
theorem dX10_addUse_24 : decode cX10_addUse 24 = .ok (.iload_n 1, 1) := by decide +kernel
theorem dX10_addUse_25 : decode cX10_addUse 25 = .ok (.invokestatic 33, 3) := by decide +kernel
theorem dX10_addUse_28 : decode cX10_addUse 28 = .ok (.aload_n 0, 1) := by decide +kernel
theorem dX10_addUse_29 : decode cX10_addUse 29 = .ok (.getfield 15, 3) := by decide +kernel
theorem dX10_addUse_32 : decode cX10_addUse 32 = .ok (.aload_n 0, 1) := by decide +kernel
theorem dX10_addUse_33 : decode cX10_addUse 33 = .ok (.getfield 24, 3) := by decide +kernel
theorem dX10_addUse_36 : decode cX10_addUse 36 = .ok (.iload_n 2, 1) := by decide +kernel
theorem dX10_addUse_37 : decode cX10_addUse 37 = .ok (.invokestatic 33, 3) := by decide +kernel
theorem dX10_addUse_40 : decode cX10_addUse 40 = .ok (.aload_n 0, 1) := by decide +kernel
theorem dX10_addUse_41 : decode cX10_addUse 41 = .ok (.getfield 18, 3) := by decide +kernel
theorem dX10_addUse_44 : decode cX10_addUse 44 = .ok (.aload_n 0, 1) := by decide +kernel
theorem dX10_addUse_45 : decode cX10_addUse 45 = .ok (.getfield 24, 3) := by decide +kernel
theorem dX10_addUse_48 : decode cX10_addUse 48 = .ok (.iload_n 3, 1) := by decide +kernel
theorem dX10_addUse_49 : decode cX10_addUse 49 = .ok (.invokestatic 33, 3) := by decide +kernel
theorem dX10_addUse_52 : decode cX10_addUse 52 = .ok (.aload_n 0, 1) := by decide +kernel
theorem dX10_addUse_53 : decode cX10_addUse 53 = .ok (.dup, 1) := by decide +kernel
theorem dX10_addUse_54 : decode cX10_addUse 54 = .ok (.getfield 24, 3) := by decide +kernel
theorem dX10_addUse_57 : decode cX10_addUse 57 = .ok (.iconst 1, 1) := by decide +kernel
theorem dX10_addUse_58 : decode cX10_addUse 58 = .ok (.iadd, 1) := by decide +kernel
theorem dX10_addUse_59 : decode cX10_addUse 59 = .ok (.putfield 24, 3) := by decide +kernel
theorem dX10_addUse_62 : decode cX10_addUse 62 = .ok (.return_, 1) := by decide +kernel
theorem dX10_size_0 : decode cX10_size 0 = .ok (.aload_n 0, 1) := by decide +kernel
theorem dX10_size_1 : decode cX10_size 1 = .ok (.getfield 24, 3) := by decide +kernel
theorem dX10_size_4 : decode cX10_size 4 = .ok (.ireturn, 1) := by decide +kernel
set_option maxRecDepth 20000 in
theorem ggX10_startOf_X11_at : GoodIn wsX10_startOf wsX11_at := goodIn_ca (goodIn_r _ [4] (by decide +kernel) (by decide +kernel)) (goodIn_sub (fun _ h => List.mem_cons_of_mem _ (List.mem_append_right _ h)) (by decide +kernel))
set_option maxRecDepth 20000 in
theorem gX10_startOf_X11_at_n77 : GoodIn wsX10_startOf (wsX11_at) := ggX10_startOf_X11_at
theorem dX10_startOf_0 : decode cX10_startOf 0 = .ok (.aload_n 0, 1) := by decide +kernel
theorem dX10_startOf_1 : decode cX10_startOf 1 = .ok (.getfield 21, 3) := by decide +kernel
theorem dX10_startOf_4 : decode cX10_startOf 4 = .ok (.iload_n 1, 1) := by decide +kernel
theorem dX10_startOf_5 : decode cX10_startOf 5 = .ok (.invokestatic 77, 3) := by decide +kernel
theorem dX10_startOf_8 : decode cX10_startOf 8 = .ok (.ireturn, 1) := by decide +kernel
set_option maxRecDepth 20000 in
theorem ggX10_offerAt_X11_at : GoodIn wsX10_offerAt wsX11_at := goodIn_ca (goodIn_r _ [4] (by decide +kernel) (by decide +kernel)) (goodIn_sub (fun _ h => List.mem_cons_of_mem _ (List.mem_append_right _ h)) (by decide +kernel))
set_option maxRecDepth 20000 in
theorem gX10_offerAt_X11_at_n77 : GoodIn wsX10_offerAt (wsX11_at) := ggX10_offerAt_X11_at
theorem dX10_offerAt_0 : decode cX10_offerAt 0 = .ok (.aload_n 0, 1) := by decide +kernel
theorem dX10_offerAt_1 : decode cX10_offerAt 1 = .ok (.getfield 11, 3) := by decide +kernel
theorem dX10_offerAt_4 : decode cX10_offerAt 4 = .ok (.iload_n 1, 1) := by decide +kernel
theorem dX10_offerAt_5 : decode cX10_offerAt 5 = .ok (.invokestatic 77, 3) := by decide +kernel
theorem dX10_offerAt_8 : decode cX10_offerAt 8 = .ok (.ireturn, 1) := by decide +kernel
set_option maxRecDepth 20000 in
theorem ggX10_maskAt_X11_at : GoodIn wsX10_maskAt wsX11_at := goodIn_ca (goodIn_r _ [4] (by decide +kernel) (by decide +kernel)) (goodIn_sub (fun _ h => List.mem_cons_of_mem _ (List.mem_append_right _ h)) (by decide +kernel))
set_option maxRecDepth 20000 in
theorem gX10_maskAt_X11_at_n77 : GoodIn wsX10_maskAt (wsX11_at) := ggX10_maskAt_X11_at
theorem dX10_maskAt_0 : decode cX10_maskAt 0 = .ok (.aload_n 0, 1) := by decide +kernel
theorem dX10_maskAt_1 : decode cX10_maskAt 1 = .ok (.getfield 15, 3) := by decide +kernel
theorem dX10_maskAt_4 : decode cX10_maskAt 4 = .ok (.iload_n 1, 1) := by decide +kernel
theorem dX10_maskAt_5 : decode cX10_maskAt 5 = .ok (.invokestatic 77, 3) := by decide +kernel
theorem dX10_maskAt_8 : decode cX10_maskAt 8 = .ok (.ireturn, 1) := by decide +kernel
set_option maxRecDepth 20000 in
theorem ggX10_discountAt_X11_at : GoodIn wsX10_discountAt wsX11_at := goodIn_ca (goodIn_r _ [4] (by decide +kernel) (by decide +kernel)) (goodIn_sub (fun _ h => List.mem_cons_of_mem _ (List.mem_append_right _ h)) (by decide +kernel))
set_option maxRecDepth 20000 in
theorem gX10_discountAt_X11_at_n77 : GoodIn wsX10_discountAt (wsX11_at) := ggX10_discountAt_X11_at
theorem dX10_discountAt_0 : decode cX10_discountAt 0 = .ok (.aload_n 0, 1) := by decide +kernel
theorem dX10_discountAt_1 : decode cX10_discountAt 1 = .ok (.getfield 18, 3) := by decide +kernel
theorem dX10_discountAt_4 : decode cX10_discountAt 4 = .ok (.iload_n 1, 1) := by decide +kernel
theorem dX10_discountAt_5 : decode cX10_discountAt 5 = .ok (.invokestatic 77, 3) := by decide +kernel
theorem dX10_discountAt_8 : decode cX10_discountAt 8 = .ok (.ireturn, 1) := by decide +kernel
set_option maxRecDepth 20000 in
theorem ggX11_init_X0_init : GoodIn wsX11_init wsX0_init := goodIn_r _ [25, 26, 2, 3, 27, 28, 29, 30, 78, 79, 80, 81, 82] (by decide +kernel) (by decide +kernel)
set_option maxRecDepth 20000 in
theorem gX11_init_X0_init_n9 : GoodIn wsX11_init (wsX0_init) := ggX11_init_X0_init
set_option maxRecDepth 20000 in
theorem ggX11_init_X6_init : GoodIn wsX11_init wsX6_init := goodIn_r _ [32, 33, 2, 3, 34, 35, 27, 36, 37, 38, 39, 90, 91, 92, 93, 94, 95] (by decide +kernel) (by decide +kernel)
set_option maxRecDepth 20000 in
theorem gX11_init_X6_init_n18 : GoodIn wsX11_init (wsX6_init) := ggX11_init_X6_init
set_option maxRecDepth 20000 in
theorem ggX11_init_X8_init : GoodIn wsX11_init wsX8_init := goodIn_r _ [42, 43, 2, 3, 44, 45, 46, 47, 27, 48, 49, 50, 51, 52, 53, 54, 55, 56, 57, 58, 59, 60, 61, 121, 122, 123, 124, 125, 96, 97, 98, 99, 100, 101, 102, 103, 104, 105, 106, 107] (by decide +kernel) (by decide +kernel)
set_option maxRecDepth 20000 in
theorem gX11_init_X8_init : GoodIn wsX11_init (wsX8_init) := ggX11_init_X8_init
set_option maxRecDepth 20000 in
theorem ggX11_init_X1_init : GoodIn wsX11_init wsX1_init := goodIn_r _ [64, 65, 2, 3, 27, 66, 67, 68, 69, 108, 109, 110, 111] (by decide +kernel) (by decide +kernel)
set_option maxRecDepth 20000 in
theorem gX11_init_X1_init : GoodIn wsX11_init (wsX1_init) := ggX11_init_X1_init
set_option maxRecDepth 20000 in
theorem ggX11_init_X4_init : GoodIn wsX11_init wsX4_init := goodIn_r _ [71, 72, 2, 3, 73, 74, 75, 27, 76, 77, 112, 113, 114, 115, 116, 117, 118, 119, 120] (by decide +kernel) (by decide +kernel)
set_option maxRecDepth 20000 in
theorem gX11_init_X4_init_n43 : GoodIn wsX11_init (wsX4_init) := ggX11_init_X4_init
theorem dX11_init_0 : decode cX11_init 0 = .ok (.aload_n 0, 1) := by decide +kernel
theorem dX11_init_1 : decode cX11_init 1 = .ok (.invokespecial 1, 3) := by decide +kernel
theorem dX11_init_4 : decode cX11_init 4 = .ok (.aload_n 0, 1) := by decide +kernel
theorem dX11_init_5 : decode cX11_init 5 = .ok (.new 7, 3) := by decide +kernel
theorem dX11_init_8 : decode cX11_init 8 = .ok (.dup, 1) := by decide +kernel
theorem dX11_init_9 : decode cX11_init 9 = .ok (.invokespecial 9, 3) := by decide +kernel
theorem dX11_init_12 : decode cX11_init 12 = .ok (.putfield 10, 3) := by decide +kernel
theorem dX11_init_15 : decode cX11_init 15 = .ok (.aload_n 0, 1) := by decide +kernel
theorem dX11_init_16 : decode cX11_init 16 = .ok (.new 16, 3) := by decide +kernel
theorem dX11_init_19 : decode cX11_init 19 = .ok (.dup, 1) := by decide +kernel
theorem dX11_init_20 : decode cX11_init 20 = .ok (.invokespecial 18, 3) := by decide +kernel
theorem dX11_init_23 : decode cX11_init 23 = .ok (.putfield 19, 3) := by decide +kernel
theorem dX11_init_26 : decode cX11_init 26 = .ok (.aload_n 0, 1) := by decide +kernel
theorem dX11_init_27 : decode cX11_init 27 = .ok (.new 23, 3) := by decide +kernel
theorem dX11_init_30 : decode cX11_init 30 = .ok (.dup, 1) := by decide +kernel
theorem dX11_init_31 : decode cX11_init 31 = .ok (.aload_n 0, 1) := by decide +kernel
theorem dX11_init_32 : decode cX11_init 32 = .ok (.getfield 10, 3) := by decide +kernel
theorem dX11_init_35 : decode cX11_init 35 = .ok (.aload_n 0, 1) := by decide +kernel
theorem dX11_init_36 : decode cX11_init 36 = .ok (.getfield 19, 3) := by decide +kernel
theorem dX11_init_39 : decode cX11_init 39 = .ok (.invokespecial 25, 3) := by decide +kernel
theorem dX11_init_42 : decode cX11_init 42 = .ok (.putfield 28, 3) := by decide +kernel
theorem dX11_init_45 : decode cX11_init 45 = .ok (.aload_n 0, 1) := by decide +kernel
theorem dX11_init_46 : decode cX11_init 46 = .ok (.new 32, 3) := by decide +kernel
theorem dX11_init_49 : decode cX11_init 49 = .ok (.dup, 1) := by decide +kernel
theorem dX11_init_50 : decode cX11_init 50 = .ok (.aload_n 0, 1) := by decide +kernel
theorem dX11_init_51 : decode cX11_init 51 = .ok (.getfield 10, 3) := by decide +kernel
theorem dX11_init_54 : decode cX11_init 54 = .ok (.aload_n 0, 1) := by decide +kernel
theorem dX11_init_55 : decode cX11_init 55 = .ok (.getfield 28, 3) := by decide +kernel
theorem dX11_init_58 : decode cX11_init 58 = .ok (.invokespecial 34, 3) := by decide +kernel
theorem dX11_init_61 : decode cX11_init 61 = .ok (.putfield 37, 3) := by decide +kernel
theorem dX11_init_64 : decode cX11_init 64 = .ok (.aload_n 0, 1) := by decide +kernel
theorem dX11_init_65 : decode cX11_init 65 = .ok (.new 41, 3) := by decide +kernel
theorem dX11_init_68 : decode cX11_init 68 = .ok (.dup, 1) := by decide +kernel
theorem dX11_init_69 : decode cX11_init 69 = .ok (.invokespecial 43, 3) := by decide +kernel
theorem dX11_init_72 : decode cX11_init 72 = .ok (.putfield 44, 3) := by decide +kernel
theorem dX11_init_75 : decode cX11_init 75 = .ok (.return_, 1) := by decide +kernel
set_option maxRecDepth 20000 in
theorem ggX11_put_X11_isWithin : GoodIn wsX11_put wsX11_isWithin := goodIn_r _ [10] (by decide +kernel) (by decide +kernel)
set_option maxRecDepth 20000 in
theorem gX11_put_X11_isWithin : GoodIn wsX11_put (va_wsS RX11 48 yX11_isWithin wsX11_isWithin) := goodIn_app (goodIn_of _ (by decide +kernel)) ggX11_put_X11_isWithin
set_option maxRecDepth 20000 in
theorem ggX11_put_X0_hasRoom : GoodIn wsX11_put wsX0_hasRoom := goodIn_r _ [15, 16, 17, 34, 35, 36, 37, 38] (by decide +kernel) (by decide +kernel)
set_option maxRecDepth 20000 in
theorem gX11_put_X0_hasRoom : GoodIn wsX11_put (wsV RX11 59 RX0 yX0_hasRoom wsX0_hasRoom) := goodIn_app (goodIn_of _ (by decide +kernel)) ggX11_put_X0_hasRoom
set_option maxRecDepth 20000 in
theorem ggX11_put_X0_append : GoodIn wsX11_put wsX0_append := goodIn_ca (goodIn_r _ [21, 17, 22, 16, 23, 24, 25, 9, 26, 34, 35, 36, 37, 38] (by decide +kernel) (by decide +kernel)) (goodIn_sub (fun _ h => List.mem_cons_of_mem _ (List.mem_append_right _ h)) (by decide +kernel))
set_option maxRecDepth 20000 in
theorem gX11_put_X0_append : GoodIn wsX11_put (wsV RX11 72 RX0 yX0_append wsX0_append) := goodIn_app (goodIn_of _ (by decide +kernel)) ggX11_put_X0_append
theorem dX11_put_0 : decode cX11_put 0 = .ok (.iload_n 1, 1) := by decide +kernel
theorem dX11_put_1 : decode cX11_put 1 = .ok (.iconst 0, 1) := by decide +kernel
theorem dX11_put_2 : decode cX11_put 2 = .ok (.bipush 9, 2) := by decide +kernel
theorem dX11_put_4 : decode cX11_put 4 = .ok (.invokestatic 48, 3) := by decide +kernel
theorem dX11_put_7 : decode cX11_put 7 = .ok (.ifCond .eq 14, 3) := by decide +kernel
theorem dX11_put_10 : decode cX11_put 10 = .ok (.iload_n 2, 1) := by decide +kernel
theorem dX11_put_11 : decode cX11_put 11 = .ok (.iconst 1, 1) := by decide +kernel
theorem dX11_put_12 : decode cX11_put 12 = .ok (.sipush 9999, 3) := by decide +kernel
theorem dX11_put_15 : decode cX11_put 15 = .ok (.invokestatic 48, 3) := by decide +kernel
theorem dX11_put_18 : decode cX11_put 18 = .ok (.ifCond .ne 13, 3) := by decide +kernel
theorem dX11_put_21 : decode cX11_put 21 = .ok (.new 52, 3) := by decide +kernel
theorem dX11_put_24 : decode cX11_put 24 = .ok (.dup, 1) := by decide +kernel
theorem dX11_put_25 : decode cX11_put 25 = .ok (.ldc 54, 2) := by decide +kernel
theorem dX11_put_27 : decode cX11_put 27 = .ok (.invokespecial 56, 3) := by decide +kernel
theorem dX11_put_30 : decode cX11_put 30 = .ok (.athrow, 1) := by decide +kernel
theorem dX11_put_31 : decode cX11_put 31 = .ok (.aload_n 0, 1) := by decide +kernel
theorem dX11_put_32 : decode cX11_put 32 = .ok (.getfield 10, 3) := by decide +kernel
theorem dX11_put_35 : decode cX11_put 35 = .ok (.invokevirtual 59, 3) := by decide +kernel
theorem dX11_put_38 : decode cX11_put 38 = .ok (.ifCond .ne 13, 3) := by decide +kernel
theorem dX11_put_41 : decode cX11_put 41 = .ok (.new 63, 3) := by decide +kernel
theorem dX11_put_44 : decode cX11_put 44 = .ok (.dup, 1) := by decide +kernel
theorem dX11_put_45 : decode cX11_put 45 = .ok (.ldc 65, 2) := by decide +kernel
theorem dX11_put_47 : decode cX11_put 47 = .ok (.invokespecial 67, 3) := by decide +kernel
theorem dX11_put_50 : decode cX11_put 50 = .ok (.athrow, 1) := by decide +kernel
theorem dX11_put_51 : decode cX11_put 51 = .ok (.aload_n 0, 1) := by decide +kernel
theorem dX11_put_52 : decode cX11_put 52 = .ok (.iconst 0, 1) := by decide +kernel
theorem dX11_put_53 : decode cX11_put 53 = .ok (.putfield 68, 3) := by decide +kernel
theorem dX11_put_56 : decode cX11_put 56 = .ok (.aload_n 0, 1) := by decide +kernel
theorem dX11_put_57 : decode cX11_put 57 = .ok (.getfield 10, 3) := by decide +kernel
theorem dX11_put_60 : decode cX11_put 60 = .ok (.iload_n 1, 1) := by decide +kernel
theorem dX11_put_61 : decode cX11_put 61 = .ok (.iload_n 2, 1) := by decide +kernel
theorem dX11_put_62 : decode cX11_put 62 = .ok (.invokevirtual 72, 3) := by decide +kernel
theorem dX11_put_65 : decode cX11_put 65 = .ok (.ireturn, 1) := by decide +kernel
set_option maxRecDepth 20000 in
theorem ggX11_takeOut_X0_positionOf : GoodIn wsX11_takeOut wsX0_positionOf := goodIn_ca (goodIn_r _ [9, 10, 11, 12, 13, 14, 34, 35, 36, 37, 38] (by decide +kernel) (by decide +kernel)) (goodIn_sub (fun _ h => List.mem_cons_of_mem _ (List.mem_append_right _ h)) (by decide +kernel))
set_option maxRecDepth 20000 in
theorem gX11_takeOut_X0_positionOf : GoodIn wsX11_takeOut (wsV RX11 76 RX0 yX0_positionOf wsX0_positionOf) := goodIn_app (goodIn_of _ (by decide +kernel)) ggX11_takeOut_X0_positionOf
set_option maxRecDepth 20000 in
theorem ggX11_takeOut_X0_remove : GoodIn wsX11_takeOut wsX0_remove := goodIn_ca (goodIn_r _ [18, 10, 11, 19, 20, 12, 13, 14, 21, 22, 34, 35, 36, 37, 38] (by decide +kernel) (by decide +kernel)) (goodIn_sub (fun _ h => List.mem_cons_of_mem _ (List.mem_append_right _ h)) (by decide +kernel))
set_option maxRecDepth 20000 in
theorem gX11_takeOut_X0_remove : GoodIn wsX11_takeOut (wsV RX11 85 RX0 yX0_remove wsX0_remove) := goodIn_app (goodIn_of _ (by decide +kernel)) ggX11_takeOut_X0_remove
set_option maxRecDepth 20000 in
theorem ggX11_takeOut_X0_size : GoodIn wsX11_takeOut wsX0_size := goodIn_r _ [26, 10, 34, 35, 36, 37, 38] (by decide +kernel) (by decide +kernel)
set_option maxRecDepth 20000 in
theorem gX11_takeOut_X0_size : GoodIn wsX11_takeOut (wsV RX11 89 RX0 yX0_size wsX0_size) := goodIn_app (goodIn_of _ (by decide +kernel)) ggX11_takeOut_X0_size
theorem dX11_takeOut_0 : decode cX11_takeOut 0 = .ok (.aload_n 0, 1) := by decide +kernel
theorem dX11_takeOut_1 : decode cX11_takeOut 1 = .ok (.getfield 10, 3) := by decide +kernel
theorem dX11_takeOut_4 : decode cX11_takeOut 4 = .ok (.iload_n 1, 1) := by decide +kernel
theorem dX11_takeOut_5 : decode cX11_takeOut 5 = .ok (.invokevirtual 76, 3) := by decide +kernel
theorem dX11_takeOut_8 : decode cX11_takeOut 8 = .ok (.istore_n 2, 1) := by decide +kernel
theorem dX11_takeOut_9 : decode cX11_takeOut 9 = .ok (.iload_n 2, 1) := by decide +kernel
theorem dX11_takeOut_10 : decode cX11_takeOut 10 = .ok (.iconst (-1), 1) := by decide +kernel
theorem dX11_takeOut_11 : decode cX11_takeOut 11 = .ok (.if_icmp .ne 13, 3) := by decide +kernel
theorem dX11_takeOut_14 : decode cX11_takeOut 14 = .ok (.new 80, 3) := by decide +kernel
theorem dX11_takeOut_17 : decode cX11_takeOut 17 = .ok (.dup, 1) := by decide +kernel
theorem dX11_takeOut_18 : decode cX11_takeOut 18 = .ok (.ldc 82, 2) := by decide +kernel
theorem dX11_takeOut_20 : decode cX11_takeOut 20 = .ok (.invokespecial 84, 3) := by decide +kernel
theorem dX11_takeOut_23 : decode cX11_takeOut 23 = .ok (.athrow, 1) := by decide +kernel
theorem dX11_takeOut_24 : decode cX11_takeOut 24 = .ok (.aload_n 0, 1) := by decide +kernel
theorem dX11_takeOut_25 : decode cX11_takeOut 25 = .ok (.iconst 0, 1) := by decide +kernel
theorem dX11_takeOut_26 : decode cX11_takeOut 26 = .ok (.putfield 68, 3) := by decide +kernel
theorem dX11_takeOut_29 : decode cX11_takeOut 29 = .ok (.aload_n 0, 1) := by decide +kernel
theorem dX11_takeOut_30 : decode cX11_takeOut 30 = .ok (.getfield 10, 3) := by decide +kernel
theorem dX11_takeOut_33 : decode cX11_takeOut 33 = .ok (.iload_n 2, 1) := by decide +kernel
theorem dX11_takeOut_34 : decode cX11_takeOut 34 = .ok (.invokevirtual 85, 3) := by decide +kernel
theorem dX11_takeOut_37 : decode cX11_takeOut 37 = .ok (.aload_n 0, 1) := by decide +kernel
theorem dX11_takeOut_38 : decode cX11_takeOut 38 = .ok (.getfield 10, 3) := by decide +kernel
theorem dX11_takeOut_41 : decode cX11_takeOut 41 = .ok (.invokevirtual 89, 3) := by decide +kernel
theorem dX11_takeOut_44 : decode cX11_takeOut 44 = .ok (.ireturn, 1) := by decide +kernel
set_option maxRecDepth 20000 in
theorem ggX11_setCustomer_X11_isWithin : GoodIn wsX11_setCustomer wsX11_isWithin := goodIn_r _ [8] (by decide +kernel) (by decide +kernel)
set_option maxRecDepth 20000 in
theorem gX11_setCustomer_X11_isWithin : GoodIn wsX11_setCustomer (va_wsS RX11 48 yX11_isWithin wsX11_isWithin) := goodIn_app (goodIn_of _ (by decide +kernel)) ggX11_setCustomer_X11_isWithin
theorem dX11_setCustomer_0 : decode cX11_setCustomer 0 = .ok (.iload_n 1, 1) := by decide +kernel
theorem dX11_setCustomer_1 : decode cX11_setCustomer 1 = .ok (.iconst 0, 1) := by decide +kernel
theorem dX11_setCustomer_2 : decode cX11_setCustomer 2 = .ok (.iconst 3, 1) := by decide +kernel
theorem dX11_setCustomer_3 : decode cX11_setCustomer 3 = .ok (.invokestatic 48, 3) := by decide +kernel
theorem dX11_setCustomer_6 : decode cX11_setCustomer 6 = .ok (.ifCond .ne 13, 3) := by decide +kernel
theorem dX11_setCustomer_9 : decode cX11_setCustomer 9 = .ok (.new 52, 3) := by decide +kernel
theorem dX11_setCustomer_12 : decode cX11_setCustomer 12 = .ok (.dup, 1) := by decide +kernel
theorem dX11_setCustomer_13 : decode cX11_setCustomer 13 = .ok (.ldc 93, 2) := by decide +kernel
theorem dX11_setCustomer_15 : decode cX11_setCustomer 15 = .ok (.invokespecial 56, 3) := by decide +kernel
theorem dX11_setCustomer_18 : decode cX11_setCustomer 18 = .ok (.athrow, 1) := by decide +kernel
theorem dX11_setCustomer_19 : decode cX11_setCustomer 19 = .ok (.aload_n 0, 1) := by decide +kernel
theorem dX11_setCustomer_20 : decode cX11_setCustomer 20 = .ok (.getfield 95, 3) := by decide +kernel
theorem dX11_setCustomer_23 : decode cX11_setCustomer 23 = .ok (.istore_n 2, 1) := by decide +kernel
theorem dX11_setCustomer_24 : decode cX11_setCustomer 24 = .ok (.aload_n 0, 1) := by decide +kernel
theorem dX11_setCustomer_25 : decode cX11_setCustomer 25 = .ok (.iconst 0, 1) := by decide +kernel
theorem dX11_setCustomer_26 : decode cX11_setCustomer 26 = .ok (.putfield 68, 3) := by decide +kernel
theorem dX11_setCustomer_29 : decode cX11_setCustomer 29 = .ok (.aload_n 0, 1) := by decide +kernel
theorem dX11_setCustomer_30 : decode cX11_setCustomer 30 = .ok (.iload_n 1, 1) := by decide +kernel
theorem dX11_setCustomer_31 : decode cX11_setCustomer 31 = .ok (.putfield 95, 3) := by decide +kernel
theorem dX11_setCustomer_34 : decode cX11_setCustomer 34 = .ok (.iload_n 2, 1) := by decide +kernel
theorem dX11_setCustomer_35 : decode cX11_setCustomer 35 = .ok (.ireturn, 1) := by decide +kernel
set_option maxRecDepth 20000 in
theorem ggX11_items_X0_size : GoodIn wsX11_items wsX0_size := goodIn_r _ [6, 7, 15, 16, 17, 18, 19] (by decide +kernel) (by decide +kernel)
set_option maxRecDepth 20000 in
theorem gX11_items_X0_size : GoodIn wsX11_items (wsV RX11 89 RX0 yX0_size wsX0_size) := goodIn_app (goodIn_of _ (by decide +kernel)) ggX11_items_X0_size
theorem dX11_items_0 : decode cX11_items 0 = .ok (.aload_n 0, 1) := by decide +kernel
theorem dX11_items_1 : decode cX11_items 1 = .ok (.getfield 10, 3) := by decide +kernel
theorem dX11_items_4 : decode cX11_items 4 = .ok (.invokevirtual 89, 3) := by decide +kernel
theorem dX11_items_7 : decode cX11_items 7 = .ok (.ireturn, 1) := by decide +kernel
set_option maxRecDepth 20000 in
theorem ggX11_sum_X0_mask : GoodIn wsX11_sum wsX0_mask := goodIn_r _ [6, 7, 8, 9, 10, 27, 28, 29, 30, 31] (by decide +kernel) (by decide +kernel)
set_option maxRecDepth 20000 in
theorem gX11_sum_X0_mask : GoodIn wsX11_sum (wsV RX11 99 RX0 yX0_mask wsX0_mask) := goodIn_app (goodIn_of _ (by decide +kernel)) ggX11_sum_X0_mask
set_option maxRecDepth 20000 in
theorem ggX11_sum_X0_priceOf : GoodIn wsX11_sum wsX0_priceOf := goodIn_ca (goodIn_r _ [14, 7, 15, 16, 9, 17, 18, 19, 27, 28, 29, 30, 31] (by decide +kernel) (by decide +kernel)) (goodIn_sub (fun _ h => List.mem_cons_of_mem _ (List.mem_append_right _ h)) (by decide +kernel))
set_option maxRecDepth 20000 in
theorem gX11_sum_X0_priceOf : GoodIn wsX11_sum (wsV RX11 102 RX0 yX0_priceOf wsX0_priceOf) := goodIn_app (goodIn_of _ (by decide +kernel)) ggX11_sum_X0_priceOf
theorem dX11_sum_0 : decode cX11_sum 0 = .ok (.aload_n 0, 1) := by decide +kernel
theorem dX11_sum_1 : decode cX11_sum 1 = .ok (.getfield 10, 3) := by decide +kernel
theorem dX11_sum_4 : decode cX11_sum 4 = .ok (.aload_n 0, 1) := by decide +kernel
theorem dX11_sum_5 : decode cX11_sum 5 = .ok (.getfield 10, 3) := by decide +kernel
theorem dX11_sum_8 : decode cX11_sum 8 = .ok (.invokevirtual 99, 3) := by decide +kernel
theorem dX11_sum_11 : decode cX11_sum 11 = .ok (.invokevirtual 102, 3) := by decide +kernel
theorem dX11_sum_14 : decode cX11_sum 14 = .ok (.ireturn, 1) := by decide +kernel
set_option maxRecDepth 20000 in
theorem ggX11_addPercentage_X11_isWithin : GoodIn wsX11_addPercentage wsX11_isWithin := goodIn_r _ [12] (by decide +kernel) (by decide +kernel)
set_option maxRecDepth 20000 in
theorem gX11_addPercentage_X11_isWithin : GoodIn wsX11_addPercentage (va_wsS RX11 48 yX11_isWithin wsX11_isWithin) := goodIn_app (goodIn_of _ (by decide +kernel)) ggX11_addPercentage_X11_isWithin
set_option maxRecDepth 20000 in
theorem ggX11_addPercentage_X11_areTerms : GoodIn wsX11_addPercentage wsX11_areTerms := goodIn_r _ [15, 9, 10, 11, 12] (by decide +kernel) (by decide +kernel)
set_option maxRecDepth 20000 in
theorem gX11_addPercentage_X11_areTerms : GoodIn wsX11_addPercentage (va_wsS RX11 105 yX11_areTerms wsX11_areTerms) := goodIn_app (goodIn_of _ (by decide +kernel)) ggX11_addPercentage_X11_areTerms
set_option maxRecDepth 20000 in
theorem ggX11_addPercentage_X6_isFull : GoodIn wsX11_addPercentage wsX6_isFull := goodIn_r _ [20, 21, 97, 98, 99, 100, 101, 102] (by decide +kernel) (by decide +kernel)
set_option maxRecDepth 20000 in
theorem gX11_addPercentage_X6_isFull : GoodIn wsX11_addPercentage (wsV RX11 111 RX6 yX6_isFull wsX6_isFull) := goodIn_app (goodIn_of _ (by decide +kernel)) ggX11_addPercentage_X6_isFull
set_option maxRecDepth 20000 in
theorem ggX11_addPercentage_X7_init : GoodIn wsX11_addPercentage wsX7_init := goodIn_r _ [24, 25, 26, 27, 28, 29, 30, 31, 32, 33, 34, 35, 93, 94, 95, 96, 103, 104, 105, 106, 107, 108, 109, 110, 111, 112, 113, 114, 115, 116, 117, 118, 119] (by decide +kernel) (by decide +kernel)
set_option maxRecDepth 20000 in
theorem gX11_addPercentage_X7_init : GoodIn wsX11_addPercentage (wsX7_init) := ggX11_addPercentage_X7_init
set_option maxRecDepth 20000 in
theorem ggX11_addPercentage_X11_enter : GoodIn wsX11_addPercentage wsX11_enter := goodIn_ca (goodIn_r _ [39, 40, 5, 41, 42, 43, 19, 44, 21, 45, 46, 47, 48, 49, 50, 51, 52, 29, 53, 35, 54, 55, 56, 57, 11, 58, 59, 60, 61, 62, 63, 64, 65, 66, 67, 68, 69, 70, 71, 72, 73, 74, 75, 76, 77, 78, 79, 80, 81, 82, 83, 84, 85, 86, 87, 88, 89, 90, 91, 92, 97, 98, 99, 100, 101, 102, 103, 104, 105, 106, 107, 108, 109, 110, 111, 112, 113, 114, 115, 93, 94, 95, 96, 116, 117, 118, 119] (by decide +kernel) (by decide +kernel)) (goodIn_sub (fun _ h => List.mem_cons_of_mem _ (List.mem_append_right _ h)) (by decide +kernel))
set_option maxRecDepth 20000 in
theorem gX11_addPercentage_X11_enter : GoodIn wsX11_addPercentage (wsV RX11 121 RX11 yX11_enter wsX11_enter) := goodIn_app (goodIn_of _ (by decide +kernel)) ggX11_addPercentage_X11_enter
theorem dX11_addPercentage_0 : decode cX11_addPercentage 0 = .ok (.iload_n 1, 1) := by decide +kernel
theorem dX11_addPercentage_1 : decode cX11_addPercentage 1 = .ok (.iconst 0, 1) := by decide +kernel
theorem dX11_addPercentage_2 : decode cX11_addPercentage 2 = .ok (.bipush 9, 2) := by decide +kernel
theorem dX11_addPercentage_4 : decode cX11_addPercentage 4 = .ok (.invokestatic 48, 3) := by decide +kernel
theorem dX11_addPercentage_7 : decode cX11_addPercentage 7 = .ok (.ifCond .eq 22, 3) := by decide +kernel
theorem dX11_addPercentage_10 : decode cX11_addPercentage 10 = .ok (.iload_n 2, 1) := by decide +kernel
theorem dX11_addPercentage_11 : decode cX11_addPercentage 11 = .ok (.iconst 1, 1) := by decide +kernel
theorem dX11_addPercentage_12 : decode cX11_addPercentage 12 = .ok (.bipush 90, 2) := by decide +kernel
theorem dX11_addPercentage_14 : decode cX11_addPercentage 14 = .ok (.invokestatic 48, 3) := by decide +kernel
theorem dX11_addPercentage_17 : decode cX11_addPercentage 17 = .ok (.ifCond .eq 12, 3) := by decide +kernel
theorem dX11_addPercentage_20 : decode cX11_addPercentage 20 = .ok (.iload_n 3, 1) := by decide +kernel
theorem dX11_addPercentage_21 : decode cX11_addPercentage 21 = .ok (.iload 4, 2) := by decide +kernel
theorem dX11_addPercentage_23 : decode cX11_addPercentage 23 = .ok (.invokestatic 105, 3) := by decide +kernel
theorem dX11_addPercentage_26 : decode cX11_addPercentage 26 = .ok (.ifCond .ne 13, 3) := by decide +kernel
theorem dX11_addPercentage_29 : decode cX11_addPercentage 29 = .ok (.new 52, 3) := by decide +kernel
theorem dX11_addPercentage_32 : decode cX11_addPercentage 32 = .ok (.dup, 1) := by decide +kernel
theorem dX11_addPercentage_33 : decode cX11_addPercentage 33 = .ok (.ldc 109, 2) := by decide +kernel
theorem dX11_addPercentage_35 : decode cX11_addPercentage 35 = .ok (.invokespecial 56, 3) := by decide +kernel
theorem dX11_addPercentage_38 : decode cX11_addPercentage 38 = .ok (.athrow, 1) := by decide +kernel
theorem dX11_addPercentage_39 : decode cX11_addPercentage 39 = .ok (.aload_n 0, 1) := by decide +kernel
theorem dX11_addPercentage_40 : decode cX11_addPercentage 40 = .ok (.getfield 19, 3) := by decide +kernel
theorem dX11_addPercentage_43 : decode cX11_addPercentage 43 = .ok (.invokevirtual 111, 3) := by decide +kernel
theorem dX11_addPercentage_46 : decode cX11_addPercentage 46 = .ok (.ifCond .eq 13, 3) := by decide +kernel
theorem dX11_addPercentage_49 : decode cX11_addPercentage 49 = .ok (.new 63, 3) := by decide +kernel
theorem dX11_addPercentage_52 : decode cX11_addPercentage 52 = .ok (.dup, 1) := by decide +kernel
theorem dX11_addPercentage_53 : decode cX11_addPercentage 53 = .ok (.ldc 114, 2) := by decide +kernel
theorem dX11_addPercentage_55 : decode cX11_addPercentage 55 = .ok (.invokespecial 67, 3) := by decide +kernel
theorem dX11_addPercentage_58 : decode cX11_addPercentage 58 = .ok (.athrow, 1) := by decide +kernel
theorem dX11_addPercentage_59 : decode cX11_addPercentage 59 = .ok (.aload_n 0, 1) := by decide +kernel
theorem dX11_addPercentage_60 : decode cX11_addPercentage 60 = .ok (.new 116, 3) := by decide +kernel
theorem dX11_addPercentage_63 : decode cX11_addPercentage 63 = .ok (.dup, 1) := by decide +kernel
theorem dX11_addPercentage_64 : decode cX11_addPercentage 64 = .ok (.iload_n 1, 1) := by decide +kernel
theorem dX11_addPercentage_65 : decode cX11_addPercentage 65 = .ok (.iload_n 2, 1) := by decide +kernel
theorem dX11_addPercentage_66 : decode cX11_addPercentage 66 = .ok (.iload_n 3, 1) := by decide +kernel
theorem dX11_addPercentage_67 : decode cX11_addPercentage 67 = .ok (.iload 4, 2) := by decide +kernel
theorem dX11_addPercentage_69 : decode cX11_addPercentage 69 = .ok (.invokespecial 118, 3) := by decide +kernel
theorem dX11_addPercentage_72 : decode cX11_addPercentage 72 = .ok (.invokevirtual 121, 3) := by decide +kernel
theorem dX11_addPercentage_75 : decode cX11_addPercentage 75 = .ok (.ireturn, 1) := by decide +kernel
set_option maxRecDepth 20000 in
theorem ggX11_addFreeItem_X11_isWithin : GoodIn wsX11_addFreeItem wsX11_isWithin := goodIn_r _ [12] (by decide +kernel) (by decide +kernel)
set_option maxRecDepth 20000 in
theorem gX11_addFreeItem_X11_isWithin : GoodIn wsX11_addFreeItem (va_wsS RX11 48 yX11_isWithin wsX11_isWithin) := goodIn_app (goodIn_of _ (by decide +kernel)) ggX11_addFreeItem_X11_isWithin
set_option maxRecDepth 20000 in
theorem ggX11_addFreeItem_X11_areTerms : GoodIn wsX11_addFreeItem wsX11_areTerms := goodIn_r _ [15, 9, 10, 11, 12] (by decide +kernel) (by decide +kernel)
set_option maxRecDepth 20000 in
theorem gX11_addFreeItem_X11_areTerms : GoodIn wsX11_addFreeItem (va_wsS RX11 105 yX11_areTerms wsX11_areTerms) := goodIn_app (goodIn_of _ (by decide +kernel)) ggX11_addFreeItem_X11_areTerms
set_option maxRecDepth 20000 in
theorem ggX11_addFreeItem_X6_isFull : GoodIn wsX11_addFreeItem wsX6_isFull := goodIn_r _ [20, 21, 97, 98, 99, 100, 101, 102] (by decide +kernel) (by decide +kernel)
set_option maxRecDepth 20000 in
theorem gX11_addFreeItem_X6_isFull : GoodIn wsX11_addFreeItem (wsV RX11 111 RX6 yX6_isFull wsX6_isFull) := goodIn_app (goodIn_of _ (by decide +kernel)) ggX11_addFreeItem_X6_isFull
set_option maxRecDepth 20000 in
theorem ggX11_addFreeItem_X3_init : GoodIn wsX11_addFreeItem wsX3_init := goodIn_r _ [24, 25, 26, 27, 28, 29, 30, 31, 32, 33, 34, 35, 93, 94, 95, 96, 103, 104, 105, 106, 107, 108, 109, 110, 111, 112, 113, 114, 115, 116, 117, 118, 119] (by decide +kernel) (by decide +kernel)
set_option maxRecDepth 20000 in
theorem gX11_addFreeItem_X3_init : GoodIn wsX11_addFreeItem (wsX3_init) := ggX11_addFreeItem_X3_init
set_option maxRecDepth 20000 in
theorem ggX11_addFreeItem_X11_enter : GoodIn wsX11_addFreeItem wsX11_enter := goodIn_ca (goodIn_r _ [39, 40, 5, 41, 42, 43, 19, 44, 21, 45, 46, 47, 48, 49, 50, 51, 52, 29, 53, 35, 54, 55, 56, 57, 11, 58, 59, 60, 61, 62, 63, 64, 65, 66, 67, 68, 69, 70, 71, 72, 73, 74, 75, 76, 77, 78, 79, 80, 81, 82, 83, 84, 85, 86, 87, 88, 89, 90, 91, 92, 97, 98, 99, 100, 101, 102, 103, 104, 105, 106, 107, 108, 109, 110, 111, 93, 94, 95, 96, 112, 113, 114, 115, 116, 117, 118, 119] (by decide +kernel) (by decide +kernel)) (goodIn_sub (fun _ h => List.mem_cons_of_mem _ (List.mem_append_right _ h)) (by decide +kernel))
set_option maxRecDepth 20000 in
theorem gX11_addFreeItem_X11_enter : GoodIn wsX11_addFreeItem (wsV RX11 121 RX11 yX11_enter wsX11_enter) := goodIn_app (goodIn_of _ (by decide +kernel)) ggX11_addFreeItem_X11_enter
theorem dX11_addFreeItem_0 : decode cX11_addFreeItem 0 = .ok (.iload_n 1, 1) := by decide +kernel
theorem dX11_addFreeItem_1 : decode cX11_addFreeItem 1 = .ok (.iconst 0, 1) := by decide +kernel
theorem dX11_addFreeItem_2 : decode cX11_addFreeItem 2 = .ok (.bipush 9, 2) := by decide +kernel
theorem dX11_addFreeItem_4 : decode cX11_addFreeItem 4 = .ok (.invokestatic 48, 3) := by decide +kernel
theorem dX11_addFreeItem_7 : decode cX11_addFreeItem 7 = .ok (.ifCond .eq 21, 3) := by decide +kernel
theorem dX11_addFreeItem_10 : decode cX11_addFreeItem 10 = .ok (.iload_n 2, 1) := by decide +kernel
theorem dX11_addFreeItem_11 : decode cX11_addFreeItem 11 = .ok (.iconst 2, 1) := by decide +kernel
theorem dX11_addFreeItem_12 : decode cX11_addFreeItem 12 = .ok (.iconst 5, 1) := by decide +kernel
theorem dX11_addFreeItem_13 : decode cX11_addFreeItem 13 = .ok (.invokestatic 48, 3) := by decide +kernel
theorem dX11_addFreeItem_16 : decode cX11_addFreeItem 16 = .ok (.ifCond .eq 12, 3) := by decide +kernel
theorem dX11_addFreeItem_19 : decode cX11_addFreeItem 19 = .ok (.iload_n 3, 1) := by decide +kernel
theorem dX11_addFreeItem_20 : decode cX11_addFreeItem 20 = .ok (.iload 4, 2) := by decide +kernel
theorem dX11_addFreeItem_22 : decode cX11_addFreeItem 22 = .ok (.invokestatic 105, 3) := by decide +kernel
theorem dX11_addFreeItem_25 : decode cX11_addFreeItem 25 = .ok (.ifCond .ne 13, 3) := by decide +kernel
theorem dX11_addFreeItem_28 : decode cX11_addFreeItem 28 = .ok (.new 52, 3) := by decide +kernel
theorem dX11_addFreeItem_31 : decode cX11_addFreeItem 31 = .ok (.dup, 1) := by decide +kernel
theorem dX11_addFreeItem_32 : decode cX11_addFreeItem 32 = .ok (.ldc 109, 2) := by decide +kernel
theorem dX11_addFreeItem_34 : decode cX11_addFreeItem 34 = .ok (.invokespecial 56, 3) := by decide +kernel
theorem dX11_addFreeItem_37 : decode cX11_addFreeItem 37 = .ok (.athrow, 1) := by decide +kernel
theorem dX11_addFreeItem_38 : decode cX11_addFreeItem 38 = .ok (.aload_n 0, 1) := by decide +kernel
theorem dX11_addFreeItem_39 : decode cX11_addFreeItem 39 = .ok (.getfield 19, 3) := by decide +kernel
theorem dX11_addFreeItem_42 : decode cX11_addFreeItem 42 = .ok (.invokevirtual 111, 3) := by decide +kernel
theorem dX11_addFreeItem_45 : decode cX11_addFreeItem 45 = .ok (.ifCond .eq 13, 3) := by decide +kernel
theorem dX11_addFreeItem_48 : decode cX11_addFreeItem 48 = .ok (.new 63, 3) := by decide +kernel
theorem dX11_addFreeItem_51 : decode cX11_addFreeItem 51 = .ok (.dup, 1) := by decide +kernel
theorem dX11_addFreeItem_52 : decode cX11_addFreeItem 52 = .ok (.ldc 114, 2) := by decide +kernel
theorem dX11_addFreeItem_54 : decode cX11_addFreeItem 54 = .ok (.invokespecial 67, 3) := by decide +kernel
theorem dX11_addFreeItem_57 : decode cX11_addFreeItem 57 = .ok (.athrow, 1) := by decide +kernel
theorem dX11_addFreeItem_58 : decode cX11_addFreeItem 58 = .ok (.aload_n 0, 1) := by decide +kernel
theorem dX11_addFreeItem_59 : decode cX11_addFreeItem 59 = .ok (.new 125, 3) := by decide +kernel
theorem dX11_addFreeItem_62 : decode cX11_addFreeItem 62 = .ok (.dup, 1) := by decide +kernel
theorem dX11_addFreeItem_63 : decode cX11_addFreeItem 63 = .ok (.iload_n 1, 1) := by decide +kernel
theorem dX11_addFreeItem_64 : decode cX11_addFreeItem 64 = .ok (.iload_n 2, 1) := by decide +kernel
theorem dX11_addFreeItem_65 : decode cX11_addFreeItem 65 = .ok (.iload_n 3, 1) := by decide +kernel
theorem dX11_addFreeItem_66 : decode cX11_addFreeItem 66 = .ok (.iload 4, 2) := by decide +kernel
theorem dX11_addFreeItem_68 : decode cX11_addFreeItem 68 = .ok (.invokespecial 127, 3) := by decide +kernel
theorem dX11_addFreeItem_71 : decode cX11_addFreeItem 71 = .ok (.invokevirtual 121, 3) := by decide +kernel
theorem dX11_addFreeItem_74 : decode cX11_addFreeItem 74 = .ok (.ireturn, 1) := by decide +kernel
set_option maxRecDepth 20000 in
theorem ggX11_addBundle_X11_isWithin : GoodIn wsX11_addBundle wsX11_isWithin := goodIn_r _ [12] (by decide +kernel) (by decide +kernel)
set_option maxRecDepth 20000 in
theorem gX11_addBundle_X11_isWithin : GoodIn wsX11_addBundle (va_wsS RX11 48 yX11_isWithin wsX11_isWithin) := goodIn_app (goodIn_of _ (by decide +kernel)) ggX11_addBundle_X11_isWithin
set_option maxRecDepth 20000 in
theorem ggX11_addBundle_X11_areTerms : GoodIn wsX11_addBundle wsX11_areTerms := goodIn_r _ [15, 9, 10, 11, 12] (by decide +kernel) (by decide +kernel)
set_option maxRecDepth 20000 in
theorem gX11_addBundle_X11_areTerms : GoodIn wsX11_addBundle (va_wsS RX11 105 yX11_areTerms wsX11_areTerms) := goodIn_app (goodIn_of _ (by decide +kernel)) ggX11_addBundle_X11_areTerms
set_option maxRecDepth 20000 in
theorem ggX11_addBundle_X6_isFull : GoodIn wsX11_addBundle wsX6_isFull := goodIn_r _ [20, 21, 107, 108, 109, 110, 111, 112] (by decide +kernel) (by decide +kernel)
set_option maxRecDepth 20000 in
theorem gX11_addBundle_X6_isFull : GoodIn wsX11_addBundle (wsV RX11 111 RX6 yX6_isFull wsX6_isFull) := goodIn_app (goodIn_of _ (by decide +kernel)) ggX11_addBundle_X6_isFull
set_option maxRecDepth 20000 in
theorem ggX11_addBundle_X2_init : GoodIn wsX11_addBundle wsX2_init := goodIn_r _ [24, 25, 26, 27, 28, 29, 30, 31, 32, 33, 34, 35, 36, 37, 38, 39, 40, 98, 99, 100, 101, 102, 103, 104, 105, 106, 113, 114, 115, 116, 117, 118, 119, 120, 121, 122, 123, 124] (by decide +kernel) (by decide +kernel)
set_option maxRecDepth 20000 in
theorem gX11_addBundle_X2_init : GoodIn wsX11_addBundle (wsX2_init) := ggX11_addBundle_X2_init
set_option maxRecDepth 20000 in
theorem ggX11_addBundle_X11_enter : GoodIn wsX11_addBundle wsX11_enter := goodIn_ca (goodIn_r _ [44, 45, 5, 46, 47, 48, 19, 49, 21, 50, 51, 52, 53, 54, 55, 56, 57, 34, 58, 40, 59, 60, 61, 62, 11, 63, 64, 65, 66, 67, 68, 69, 70, 71, 72, 73, 74, 75, 76, 77, 78, 79, 80, 81, 82, 83, 84, 85, 86, 87, 88, 89, 90, 91, 92, 93, 94, 95, 96, 97, 107, 108, 109, 110, 111, 112, 98, 99, 100, 101, 102, 103, 104, 105, 106, 113, 114, 115, 116, 117, 118, 119, 120, 121, 122, 123, 124] (by decide +kernel) (by decide +kernel)) (goodIn_sub (fun _ h => List.mem_cons_of_mem _ (List.mem_append_right _ h)) (by decide +kernel))
set_option maxRecDepth 20000 in
theorem gX11_addBundle_X11_enter : GoodIn wsX11_addBundle (wsV RX11 121 RX11 yX11_enter wsX11_enter) := goodIn_app (goodIn_of _ (by decide +kernel)) ggX11_addBundle_X11_enter
theorem dX11_addBundle_0 : decode cX11_addBundle 0 = .ok (.iload_n 1, 1) := by decide +kernel
theorem dX11_addBundle_1 : decode cX11_addBundle 1 = .ok (.iconst 0, 1) := by decide +kernel
theorem dX11_addBundle_2 : decode cX11_addBundle 2 = .ok (.bipush 9, 2) := by decide +kernel
theorem dX11_addBundle_4 : decode cX11_addBundle 4 = .ok (.invokestatic 48, 3) := by decide +kernel
theorem dX11_addBundle_7 : decode cX11_addBundle 7 = .ok (.ifCond .eq 45, 3) := by decide +kernel
theorem dX11_addBundle_10 : decode cX11_addBundle 10 = .ok (.iload_n 2, 1) := by decide +kernel
theorem dX11_addBundle_11 : decode cX11_addBundle 11 = .ok (.iconst 0, 1) := by decide +kernel
theorem dX11_addBundle_12 : decode cX11_addBundle 12 = .ok (.bipush 9, 2) := by decide +kernel
theorem dX11_addBundle_14 : decode cX11_addBundle 14 = .ok (.invokestatic 48, 3) := by decide +kernel
theorem dX11_addBundle_17 : decode cX11_addBundle 17 = .ok (.ifCond .eq 35, 3) := by decide +kernel
theorem dX11_addBundle_20 : decode cX11_addBundle 20 = .ok (.iload_n 3, 1) := by decide +kernel
theorem dX11_addBundle_21 : decode cX11_addBundle 21 = .ok (.iconst (-1), 1) := by decide +kernel
theorem dX11_addBundle_22 : decode cX11_addBundle 22 = .ok (.bipush 9, 2) := by decide +kernel
theorem dX11_addBundle_24 : decode cX11_addBundle 24 = .ok (.invokestatic 48, 3) := by decide +kernel
theorem dX11_addBundle_27 : decode cX11_addBundle 27 = .ok (.ifCond .eq 25, 3) := by decide +kernel
theorem dX11_addBundle_30 : decode cX11_addBundle 30 = .ok (.iload 4, 2) := by decide +kernel
theorem dX11_addBundle_32 : decode cX11_addBundle 32 = .ok (.iconst 1, 1) := by decide +kernel
theorem dX11_addBundle_33 : decode cX11_addBundle 33 = .ok (.sipush 9999, 3) := by decide +kernel
theorem dX11_addBundle_36 : decode cX11_addBundle 36 = .ok (.invokestatic 48, 3) := by decide +kernel
theorem dX11_addBundle_39 : decode cX11_addBundle 39 = .ok (.ifCond .eq 13, 3) := by decide +kernel
theorem dX11_addBundle_42 : decode cX11_addBundle 42 = .ok (.iload 5, 2) := by decide +kernel
theorem dX11_addBundle_44 : decode cX11_addBundle 44 = .ok (.iload 6, 2) := by decide +kernel
theorem dX11_addBundle_46 : decode cX11_addBundle 46 = .ok (.invokestatic 105, 3) := by decide +kernel
theorem dX11_addBundle_49 : decode cX11_addBundle 49 = .ok (.ifCond .ne 13, 3) := by decide +kernel
theorem dX11_addBundle_52 : decode cX11_addBundle 52 = .ok (.new 52, 3) := by decide +kernel
theorem dX11_addBundle_55 : decode cX11_addBundle 55 = .ok (.dup, 1) := by decide +kernel
theorem dX11_addBundle_56 : decode cX11_addBundle 56 = .ok (.ldc 109, 2) := by decide +kernel
theorem dX11_addBundle_58 : decode cX11_addBundle 58 = .ok (.invokespecial 56, 3) := by decide +kernel
theorem dX11_addBundle_61 : decode cX11_addBundle 61 = .ok (.athrow, 1) := by decide +kernel
theorem dX11_addBundle_62 : decode cX11_addBundle 62 = .ok (.aload_n 0, 1) := by decide +kernel
theorem dX11_addBundle_63 : decode cX11_addBundle 63 = .ok (.getfield 19, 3) := by decide +kernel
theorem dX11_addBundle_66 : decode cX11_addBundle 66 = .ok (.invokevirtual 111, 3) := by decide +kernel
theorem dX11_addBundle_69 : decode cX11_addBundle 69 = .ok (.ifCond .eq 13, 3) := by decide +kernel
theorem dX11_addBundle_72 : decode cX11_addBundle 72 = .ok (.new 63, 3) := by decide +kernel
theorem dX11_addBundle_75 : decode cX11_addBundle 75 = .ok (.dup, 1) := by decide +kernel
theorem dX11_addBundle_76 : decode cX11_addBundle 76 = .ok (.ldc 114, 2) := by decide +kernel
theorem dX11_addBundle_78 : decode cX11_addBundle 78 = .ok (.invokespecial 67, 3) := by decide +kernel
theorem dX11_addBundle_81 : decode cX11_addBundle 81 = .ok (.athrow, 1) := by decide +kernel
theorem dX11_addBundle_82 : decode cX11_addBundle 82 = .ok (.aload_n 0, 1) := by decide +kernel
theorem dX11_addBundle_83 : decode cX11_addBundle 83 = .ok (.new 128, 3) := by decide +kernel
theorem dX11_addBundle_86 : decode cX11_addBundle 86 = .ok (.dup, 1) := by decide +kernel
theorem dX11_addBundle_87 : decode cX11_addBundle 87 = .ok (.iload_n 1, 1) := by decide +kernel
theorem dX11_addBundle_88 : decode cX11_addBundle 88 = .ok (.iload_n 2, 1) := by decide +kernel
theorem dX11_addBundle_89 : decode cX11_addBundle 89 = .ok (.iload_n 3, 1) := by decide +kernel
theorem dX11_addBundle_90 : decode cX11_addBundle 90 = .ok (.iload 4, 2) := by decide +kernel
theorem dX11_addBundle_92 : decode cX11_addBundle 92 = .ok (.iload 5, 2) := by decide +kernel
theorem dX11_addBundle_94 : decode cX11_addBundle 94 = .ok (.iload 6, 2) := by decide +kernel
theorem dX11_addBundle_96 : decode cX11_addBundle 96 = .ok (.invokespecial 130, 3) := by decide +kernel
theorem dX11_addBundle_99 : decode cX11_addBundle 99 = .ok (.invokevirtual 121, 3) := by decide +kernel
theorem dX11_addBundle_102 : decode cX11_addBundle 102 = .ok (.ireturn, 1) := by decide +kernel
set_option maxRecDepth 20000 in
theorem ggX11_addThreshold_X11_isWithin : GoodIn wsX11_addThreshold wsX11_isWithin := goodIn_r _ [12] (by decide +kernel) (by decide +kernel)
set_option maxRecDepth 20000 in
theorem gX11_addThreshold_X11_isWithin : GoodIn wsX11_addThreshold (va_wsS RX11 48 yX11_isWithin wsX11_isWithin) := goodIn_app (goodIn_of _ (by decide +kernel)) ggX11_addThreshold_X11_isWithin
set_option maxRecDepth 20000 in
theorem ggX11_addThreshold_X11_areTerms : GoodIn wsX11_addThreshold wsX11_areTerms := goodIn_r _ [15, 9, 10, 11, 12] (by decide +kernel) (by decide +kernel)
set_option maxRecDepth 20000 in
theorem gX11_addThreshold_X11_areTerms : GoodIn wsX11_addThreshold (va_wsS RX11 105 yX11_areTerms wsX11_areTerms) := goodIn_app (goodIn_of _ (by decide +kernel)) ggX11_addThreshold_X11_areTerms
set_option maxRecDepth 20000 in
theorem ggX11_addThreshold_X6_isFull : GoodIn wsX11_addThreshold wsX6_isFull := goodIn_r _ [20, 21, 94, 95, 96, 97, 98, 99] (by decide +kernel) (by decide +kernel)
set_option maxRecDepth 20000 in
theorem gX11_addThreshold_X6_isFull : GoodIn wsX11_addThreshold (wsV RX11 111 RX6 yX6_isFull wsX6_isFull) := goodIn_app (goodIn_of _ (by decide +kernel)) ggX11_addThreshold_X6_isFull
set_option maxRecDepth 20000 in
theorem ggX11_addThreshold_X9_init : GoodIn wsX11_addThreshold wsX9_init := goodIn_r _ [24, 25, 26, 27, 28, 29, 30, 31, 32, 33, 34, 35, 90, 91, 92, 93, 100, 101, 102, 103, 104, 105, 106, 107, 108, 109, 110, 111, 112, 113, 114, 115, 116] (by decide +kernel) (by decide +kernel)
set_option maxRecDepth 20000 in
theorem gX11_addThreshold_X9_init : GoodIn wsX11_addThreshold (wsX9_init) := ggX11_addThreshold_X9_init
set_option maxRecDepth 20000 in
theorem ggX11_addThreshold_X11_enter : GoodIn wsX11_addThreshold wsX11_enter := goodIn_ca (goodIn_r _ [39, 40, 5, 41, 42, 43, 19, 44, 21, 45, 46, 47, 48, 49, 50, 51, 52, 29, 53, 35, 54, 55, 56, 57, 11, 58, 59, 60, 61, 62, 63, 64, 65, 66, 67, 68, 69, 70, 8, 71, 25, 72, 73, 74, 75, 76, 77, 78, 79, 80, 81, 82, 26, 83, 84, 85, 86, 87, 88, 89, 94, 95, 96, 97, 98, 99, 100, 101, 102, 103, 104, 105, 106, 107, 108, 109, 110, 111, 112, 113, 114, 115, 116, 90, 91, 92, 93] (by decide +kernel) (by decide +kernel)) (goodIn_sub (fun _ h => List.mem_cons_of_mem _ (List.mem_append_right _ h)) (by decide +kernel))
set_option maxRecDepth 20000 in
theorem gX11_addThreshold_X11_enter : GoodIn wsX11_addThreshold (wsV RX11 121 RX11 yX11_enter wsX11_enter) := goodIn_app (goodIn_of _ (by decide +kernel)) ggX11_addThreshold_X11_enter
theorem dX11_addThreshold_0 : decode cX11_addThreshold 0 = .ok (.iload_n 1, 1) := by decide +kernel
theorem dX11_addThreshold_1 : decode cX11_addThreshold 1 = .ok (.iconst 1, 1) := by decide +kernel
theorem dX11_addThreshold_2 : decode cX11_addThreshold 2 = .ok (.sipush 9999, 3) := by decide +kernel
theorem dX11_addThreshold_5 : decode cX11_addThreshold 5 = .ok (.invokestatic 48, 3) := by decide +kernel
theorem dX11_addThreshold_8 : decode cX11_addThreshold 8 = .ok (.ifCond .eq 23, 3) := by decide +kernel
theorem dX11_addThreshold_11 : decode cX11_addThreshold 11 = .ok (.iload_n 2, 1) := by decide +kernel
theorem dX11_addThreshold_12 : decode cX11_addThreshold 12 = .ok (.iconst 1, 1) := by decide +kernel
theorem dX11_addThreshold_13 : decode cX11_addThreshold 13 = .ok (.sipush 9999, 3) := by decide +kernel
theorem dX11_addThreshold_16 : decode cX11_addThreshold 16 = .ok (.invokestatic 48, 3) := by decide +kernel
theorem dX11_addThreshold_19 : decode cX11_addThreshold 19 = .ok (.ifCond .eq 12, 3) := by decide +kernel
theorem dX11_addThreshold_22 : decode cX11_addThreshold 22 = .ok (.iload_n 3, 1) := by decide +kernel
theorem dX11_addThreshold_23 : decode cX11_addThreshold 23 = .ok (.iload 4, 2) := by decide +kernel
theorem dX11_addThreshold_25 : decode cX11_addThreshold 25 = .ok (.invokestatic 105, 3) := by decide +kernel
theorem dX11_addThreshold_28 : decode cX11_addThreshold 28 = .ok (.ifCond .ne 13, 3) := by decide +kernel
theorem dX11_addThreshold_31 : decode cX11_addThreshold 31 = .ok (.new 52, 3) := by decide +kernel
theorem dX11_addThreshold_34 : decode cX11_addThreshold 34 = .ok (.dup, 1) := by decide +kernel
theorem dX11_addThreshold_35 : decode cX11_addThreshold 35 = .ok (.ldc 109, 2) := by decide +kernel
theorem dX11_addThreshold_37 : decode cX11_addThreshold 37 = .ok (.invokespecial 56, 3) := by decide +kernel
theorem dX11_addThreshold_40 : decode cX11_addThreshold 40 = .ok (.athrow, 1) := by decide +kernel
theorem dX11_addThreshold_41 : decode cX11_addThreshold 41 = .ok (.aload_n 0, 1) := by decide +kernel
theorem dX11_addThreshold_42 : decode cX11_addThreshold 42 = .ok (.getfield 19, 3) := by decide +kernel
theorem dX11_addThreshold_45 : decode cX11_addThreshold 45 = .ok (.invokevirtual 111, 3) := by decide +kernel
theorem dX11_addThreshold_48 : decode cX11_addThreshold 48 = .ok (.ifCond .eq 13, 3) := by decide +kernel
theorem dX11_addThreshold_51 : decode cX11_addThreshold 51 = .ok (.new 63, 3) := by decide +kernel
theorem dX11_addThreshold_54 : decode cX11_addThreshold 54 = .ok (.dup, 1) := by decide +kernel
theorem dX11_addThreshold_55 : decode cX11_addThreshold 55 = .ok (.ldc 114, 2) := by decide +kernel
theorem dX11_addThreshold_57 : decode cX11_addThreshold 57 = .ok (.invokespecial 67, 3) := by decide +kernel
theorem dX11_addThreshold_60 : decode cX11_addThreshold 60 = .ok (.athrow, 1) := by decide +kernel
theorem dX11_addThreshold_61 : decode cX11_addThreshold 61 = .ok (.aload_n 0, 1) := by decide +kernel
theorem dX11_addThreshold_62 : decode cX11_addThreshold 62 = .ok (.new 133, 3) := by decide +kernel
theorem dX11_addThreshold_65 : decode cX11_addThreshold 65 = .ok (.dup, 1) := by decide +kernel
theorem dX11_addThreshold_66 : decode cX11_addThreshold 66 = .ok (.iload_n 1, 1) := by decide +kernel
theorem dX11_addThreshold_67 : decode cX11_addThreshold 67 = .ok (.iload_n 2, 1) := by decide +kernel
theorem dX11_addThreshold_68 : decode cX11_addThreshold 68 = .ok (.iload_n 3, 1) := by decide +kernel
theorem dX11_addThreshold_69 : decode cX11_addThreshold 69 = .ok (.iload 4, 2) := by decide +kernel
theorem dX11_addThreshold_71 : decode cX11_addThreshold 71 = .ok (.invokespecial 135, 3) := by decide +kernel
theorem dX11_addThreshold_74 : decode cX11_addThreshold 74 = .ok (.invokevirtual 121, 3) := by decide +kernel
theorem dX11_addThreshold_77 : decode cX11_addThreshold 77 = .ok (.ireturn, 1) := by decide +kernel
set_option maxRecDepth 20000 in
theorem ggX11_left_X6_has : GoodIn wsX11_left wsX6_has := goodIn_r _ [9, 10, 41, 42, 43, 44, 45, 46] (by decide +kernel) (by decide +kernel)
set_option maxRecDepth 20000 in
theorem gX11_left_X6_has : GoodIn wsX11_left (wsV RX11 136 RX6 yX6_has wsX6_has) := goodIn_app (goodIn_of _ (by decide +kernel)) ggX11_left_X6_has
set_option maxRecDepth 20000 in
theorem ggX11_left_X6_leftFor : GoodIn wsX11_left wsX6_leftFor := goodIn_ca (goodIn_r _ [14, 15, 16, 17, 18, 8, 19, 20, 21, 22, 23, 24, 25, 26, 27, 28, 29, 30, 31, 32, 33, 41, 42, 43, 44, 45, 46, 47, 48, 49, 50, 51, 52, 53, 54, 55, 56, 57, 58, 59, 60, 61, 62, 63, 64, 65, 66, 67] (by decide +kernel) (by decide +kernel)) (goodIn_sub (fun _ h => List.mem_cons_of_mem _ (List.mem_append_right _ h)) (by decide +kernel))
set_option maxRecDepth 20000 in
theorem gX11_left_X6_leftFor : GoodIn wsX11_left (wsV RX11 145 RX6 yX6_leftFor wsX6_leftFor) := goodIn_app (goodIn_of _ (by decide +kernel)) ggX11_left_X6_leftFor
theorem dX11_left_0 : decode cX11_left 0 = .ok (.aload_n 0, 1) := by decide +kernel
theorem dX11_left_1 : decode cX11_left 1 = .ok (.getfield 19, 3) := by decide +kernel
theorem dX11_left_4 : decode cX11_left 4 = .ok (.iload_n 1, 1) := by decide +kernel
theorem dX11_left_5 : decode cX11_left 5 = .ok (.invokevirtual 136, 3) := by decide +kernel
theorem dX11_left_8 : decode cX11_left 8 = .ok (.ifCond .ne 13, 3) := by decide +kernel
theorem dX11_left_11 : decode cX11_left 11 = .ok (.new 140, 3) := by decide +kernel
theorem dX11_left_14 : decode cX11_left 14 = .ok (.dup, 1) := by decide +kernel
theorem dX11_left_15 : decode cX11_left 15 = .ok (.ldc 142, 2) := by decide +kernel
theorem dX11_left_17 : decode cX11_left 17 = .ok (.invokespecial 144, 3) := by decide +kernel
theorem dX11_left_20 : decode cX11_left 20 = .ok (.athrow, 1) := by decide +kernel
theorem dX11_left_21 : decode cX11_left 21 = .ok (.aload_n 0, 1) := by decide +kernel
theorem dX11_left_22 : decode cX11_left 22 = .ok (.getfield 19, 3) := by decide +kernel
theorem dX11_left_25 : decode cX11_left 25 = .ok (.aload_n 0, 1) := by decide +kernel
theorem dX11_left_26 : decode cX11_left 26 = .ok (.getfield 95, 3) := by decide +kernel
theorem dX11_left_29 : decode cX11_left 29 = .ok (.iload_n 1, 1) := by decide +kernel
theorem dX11_left_30 : decode cX11_left 30 = .ok (.invokevirtual 145, 3) := by decide +kernel
theorem dX11_left_33 : decode cX11_left 33 = .ok (.ireturn, 1) := by decide +kernel
set_option maxRecDepth 20000 in
theorem ggX11_offers_X6_size : GoodIn wsX11_offers wsX6_size := goodIn_r _ [6, 7, 15, 16, 17, 18, 19, 20] (by decide +kernel) (by decide +kernel)
set_option maxRecDepth 20000 in
theorem gX11_offers_X6_size : GoodIn wsX11_offers (wsV RX11 148 RX6 yX6_size wsX6_size) := goodIn_app (goodIn_of _ (by decide +kernel)) ggX11_offers_X6_size
theorem dX11_offers_0 : decode cX11_offers 0 = .ok (.aload_n 0, 1) := by decide +kernel
theorem dX11_offers_1 : decode cX11_offers 1 = .ok (.getfield 19, 3) := by decide +kernel
theorem dX11_offers_4 : decode cX11_offers 4 = .ok (.invokevirtual 148, 3) := by decide +kernel
theorem dX11_offers_7 : decode cX11_offers 7 = .ok (.ireturn, 1) := by decide +kernel
set_option maxRecDepth 20000 in
theorem ggX11_bestDiscount_X11_findBest : GoodIn wsX11_bestDiscount wsX11_findBest := goodIn_ca (goodIn_ca (goodIn_r _ [6, 7, 1, 8, 9, 10, 11, 12, 13, 14, 15, 16, 17, 18, 19, 20, 21, 22, 23, 24, 25, 26, 27, 28, 29, 30, 31, 32, 33, 34, 35, 5, 36, 37, 38, 39, 40, 41, 42, 43, 44, 45, 46, 47, 48, 49, 50, 51, 52, 53, 54, 55, 56, 57, 58, 59, 60, 61, 62, 63, 64, 65, 66, 67, 68, 69, 70, 71, 72, 73, 74, 75, 76, 77, 78, 79, 80, 81, 82, 83, 84, 85, 86, 87, 88, 89, 90, 91, 92, 93, 94, 95, 96, 97, 98, 99, 100, 101, 102, 103, 104, 105, 106, 107, 108, 109, 110, 111, 112, 113, 114, 115, 116, 117, 118, 119, 120, 121, 122, 123, 124, 125, 126, 127, 128, 129, 130, 131, 132, 133, 134, 135, 136, 137, 138, 139, 140, 141, 142, 143, 144, 145, 146, 147, 148, 149, 150, 151, 152, 153, 154, 155, 156, 157, 158, 159, 160, 161, 162, 163, 164, 165, 166, 167, 168, 169, 170, 171, 172, 173, 174, 175, 176, 177, 178, 179, 180, 181, 182, 183, 184, 185, 186, 187, 188, 189, 190, 191, 192, 193, 194, 195, 196, 197, 198, 199, 200, 201, 202, 203, 204, 205, 206, 207, 208, 209, 210, 211, 212, 213, 214, 215, 216, 217, 218, 219, 220, 221, 222, 223, 224, 225, 226, 227, 228, 229, 230, 231, 232, 233, 234, 235, 236, 237, 238, 239, 240, 241, 242, 243, 244, 245, 246, 247, 248, 249, 250, 251, 252, 253, 254, 255, 256, 257, 258, 259, 260, 261, 262, 263, 264, 265, 266, 267, 268, 269, 270, 271, 272, 273, 274, 275, 276, 277, 278, 279, 280, 281, 282, 283, 284, 285, 290, 291, 292, 293, 294, 295, 296, 297, 298, 299, 300, 301, 302, 303, 304, 305, 306, 307, 308, 309, 310, 311, 312, 313, 314, 315, 316, 317, 318, 319, 320, 321, 322, 323, 324, 325, 326, 327, 328, 329, 330, 331, 332, 333, 334, 335, 336, 337, 338, 339, 340, 341, 342, 343, 344, 345, 346, 347, 348, 349] (by decide +kernel) (by decide +kernel)) (goodIn_sub (fun _ h => List.mem_cons_of_mem _ (List.mem_append_left _ (List.mem_append_right _ h))) (by decide +kernel))) (goodIn_sub (fun _ h => List.mem_cons_of_mem _ (List.mem_append_right _ h)) (by decide +kernel))
set_option maxRecDepth 20000 in
theorem gX11_bestDiscount_X11_findBest : GoodIn wsX11_bestDiscount (wsV RX11 149 RX11 yX11_findBest wsX11_findBest) := goodIn_app (goodIn_of _ (by decide +kernel)) ggX11_bestDiscount_X11_findBest
set_option maxRecDepth 20000 in
theorem ggX11_bestDiscount_X8_discount : GoodIn wsX11_bestDiscount wsX8_discount := goodIn_r _ [289, 21, 297, 298, 299, 300, 301, 302, 303, 304, 305, 306, 307, 308] (by decide +kernel) (by decide +kernel)
set_option maxRecDepth 20000 in
theorem gX11_bestDiscount_X8_discount : GoodIn wsX11_bestDiscount (wsV RX11 152 RX8 yX8_discount wsX8_discount) := goodIn_app (goodIn_of _ (by decide +kernel)) ggX11_bestDiscount_X8_discount
theorem dX11_bestDiscount_0 : decode cX11_bestDiscount 0 = .ok (.aload_n 0, 1) := by decide +kernel
theorem dX11_bestDiscount_1 : decode cX11_bestDiscount 1 = .ok (.invokevirtual 149, 3) := by decide +kernel
theorem dX11_bestDiscount_4 : decode cX11_bestDiscount 4 = .ok (.aload_n 0, 1) := by decide +kernel
theorem dX11_bestDiscount_5 : decode cX11_bestDiscount 5 = .ok (.getfield 28, 3) := by decide +kernel
theorem dX11_bestDiscount_8 : decode cX11_bestDiscount 8 = .ok (.invokevirtual 152, 3) := by decide +kernel
theorem dX11_bestDiscount_11 : decode cX11_bestDiscount 11 = .ok (.ireturn, 1) := by decide +kernel
set_option maxRecDepth 20000 in
theorem ggX11_bestByTrying_X0_size : GoodIn wsX11_bestByTrying wsX0_size := goodIn_r _ [9, 10, 309, 310, 311, 312, 313] (by decide +kernel) (by decide +kernel)
set_option maxRecDepth 20000 in
theorem gX11_bestByTrying_X0_size : GoodIn wsX11_bestByTrying (wsV RX11 89 RX0 yX0_size wsX0_size) := goodIn_app (goodIn_of _ (by decide +kernel)) ggX11_bestByTrying_X0_size
set_option maxRecDepth 20000 in
theorem ggX11_bestByTrying_X11_findBest : GoodIn wsX11_bestByTrying wsX11_findBest := goodIn_ca (goodIn_ca (goodIn_r _ [15, 16, 4, 17, 18, 19, 20, 21, 22, 23, 24, 25, 26, 27, 28, 29, 30, 31, 32, 33, 34, 35, 36, 37, 38, 6, 7, 8, 9, 10, 39, 14, 40, 41, 42, 43, 44, 45, 46, 47, 48, 49, 50, 51, 52, 53, 54, 55, 56, 57, 58, 59, 60, 61, 62, 63, 64, 65, 66, 67, 68, 69, 70, 71, 72, 73, 74, 75, 76, 77, 78, 79, 80, 81, 82, 83, 84, 85, 86, 87, 88, 89, 90, 91, 92, 93, 94, 95, 96, 97, 98, 99, 100, 101, 102, 103, 104, 105, 106, 107, 108, 109, 110, 111, 112, 113, 114, 115, 116, 117, 118, 119, 120, 121, 122, 123, 124, 125, 126, 127, 128, 129, 130, 131, 132, 133, 134, 135, 136, 137, 138, 139, 140, 141, 142, 143, 144, 145, 146, 147, 148, 149, 150, 151, 152, 153, 154, 155, 156, 157, 158, 159, 160, 161, 162, 163, 164, 165, 166, 167, 168, 169, 170, 171, 172, 173, 174, 175, 176, 177, 178, 179, 180, 181, 182, 183, 184, 185, 186, 187, 188, 189, 190, 191, 192, 193, 194, 195, 196, 197, 198, 199, 200, 201, 202, 203, 204, 205, 206, 207, 208, 209, 210, 211, 212, 213, 214, 215, 216, 217, 218, 219, 220, 221, 222, 223, 224, 225, 226, 227, 228, 229, 230, 231, 232, 233, 234, 235, 236, 237, 238, 239, 240, 241, 242, 243, 244, 245, 246, 247, 248, 249, 250, 251, 252, 253, 254, 255, 256, 257, 258, 259, 260, 261, 262, 263, 264, 265, 266, 267, 268, 269, 270, 271, 272, 273, 274, 275, 276, 277, 278, 279, 280, 281, 282, 283, 284, 285, 286, 287, 288, 289, 302, 303, 304, 305, 306, 307, 308, 314, 315, 316, 317, 318, 319, 320, 321, 322, 323, 324, 325, 326, 327, 328, 329, 330, 309, 310, 311, 312, 313, 331, 332, 333, 334, 335, 336, 337, 338, 339, 340, 341, 342, 343, 344, 345, 346, 347, 348, 349, 350, 351, 352, 353, 354, 355, 356, 357, 358, 359, 360, 361] (by decide +kernel) (by decide +kernel)) (goodIn_sub (fun _ h => List.mem_cons_of_mem _ (List.mem_append_left _ (List.mem_append_right _ h))) (by decide +kernel))) (goodIn_sub (fun _ h => List.mem_cons_of_mem _ (List.mem_append_right _ h)) (by decide +kernel))
set_option maxRecDepth 20000 in
theorem gX11_bestByTrying_X11_findBest : GoodIn wsX11_bestByTrying (wsV RX11 149 RX11 yX11_findBest wsX11_findBest) := goodIn_app (goodIn_of _ (by decide +kernel)) ggX11_bestByTrying_X11_findBest
set_option maxRecDepth 20000 in
theorem ggX11_bestByTrying_X8_discountByTrying : GoodIn wsX11_bestByTrying wsX8_discountByTrying := goodIn_ca (goodIn_r _ [293, 29, 25, 162, 77, 78, 8, 79, 10, 74, 14, 75, 294, 295, 296, 22, 297, 24, 179, 180, 143, 181, 298, 299, 300, 301, 26, 204, 205, 206, 207, 27, 28, 67, 68, 208, 209, 210, 44, 211, 212, 213, 214, 215, 216, 217, 169, 170, 171, 172, 173, 124, 125, 232, 233, 234, 34, 235, 37, 236, 237, 238, 239, 240, 241, 242, 243, 158, 186, 187, 188, 189, 159, 244, 245, 246, 247, 39, 40, 191, 192, 193, 194, 160, 314, 315, 316, 317, 318, 319, 320, 321, 322, 323, 324, 325, 309, 310, 311, 312, 313, 331, 332, 333, 334, 335, 336, 326, 327, 328, 329, 330] (by decide +kernel) (by decide +kernel)) (goodIn_sub (fun _ h => List.mem_cons_of_mem _ (List.mem_append_left _ (List.mem_append_right _ h))) (by decide +kernel))
set_option maxRecDepth 20000 in
theorem gX11_bestByTrying_X8_discountByTrying : GoodIn wsX11_bestByTrying (wsV RX11 160 RX8 yX8_discountByTrying wsX8_discountByTrying) := goodIn_app (goodIn_of _ (by decide +kernel)) ggX11_bestByTrying_X8_discountByTrying
theorem dX11_bestByTrying_0 : decode cX11_bestByTrying 0 = .ok (.aload_n 0, 1) := by decide +kernel
theorem dX11_bestByTrying_1 : decode cX11_bestByTrying 1 = .ok (.getfield 10, 3) := by decide +kernel
theorem dX11_bestByTrying_4 : decode cX11_bestByTrying 4 = .ok (.invokevirtual 89, 3) := by decide +kernel
theorem dX11_bestByTrying_7 : decode cX11_bestByTrying 7 = .ok (.iconst 5, 1) := by decide +kernel
theorem dX11_bestByTrying_8 : decode cX11_bestByTrying 8 = .ok (.if_icmp .le 13, 3) := by decide +kernel
theorem dX11_bestByTrying_11 : decode cX11_bestByTrying 11 = .ok (.new 155, 3) := by decide +kernel
theorem dX11_bestByTrying_14 : decode cX11_bestByTrying 14 = .ok (.dup, 1) := by decide +kernel
theorem dX11_bestByTrying_15 : decode cX11_bestByTrying 15 = .ok (.ldc 157, 2) := by decide +kernel
theorem dX11_bestByTrying_17 : decode cX11_bestByTrying 17 = .ok (.invokespecial 159, 3) := by decide +kernel
theorem dX11_bestByTrying_20 : decode cX11_bestByTrying 20 = .ok (.athrow, 1) := by decide +kernel
theorem dX11_bestByTrying_21 : decode cX11_bestByTrying 21 = .ok (.aload_n 0, 1) := by decide +kernel
theorem dX11_bestByTrying_22 : decode cX11_bestByTrying 22 = .ok (.invokevirtual 149, 3) := by decide +kernel
theorem dX11_bestByTrying_25 : decode cX11_bestByTrying 25 = .ok (.aload_n 0, 1) := by decide +kernel
theorem dX11_bestByTrying_26 : decode cX11_bestByTrying 26 = .ok (.getfield 28, 3) := by decide +kernel
theorem dX11_bestByTrying_29 : decode cX11_bestByTrying 29 = .ok (.invokevirtual 160, 3) := by decide +kernel
theorem dX11_bestByTrying_32 : decode cX11_bestByTrying 32 = .ok (.ireturn, 1) := by decide +kernel
set_option maxRecDepth 20000 in
theorem ggX11_offerOf_X0_positionOf : GoodIn wsX11_offerOf wsX0_positionOf := goodIn_ca (goodIn_r _ [9, 10, 11, 12, 13, 14, 306, 307, 308, 309, 310] (by decide +kernel) (by decide +kernel)) (goodIn_sub (fun _ h => List.mem_cons_of_mem _ (List.mem_append_left _ (List.mem_append_right _ h))) (by decide +kernel))
set_option maxRecDepth 20000 in
theorem gX11_offerOf_X0_positionOf : GoodIn wsX11_offerOf (wsV RX11 76 RX0 yX0_positionOf wsX0_positionOf) := goodIn_app (goodIn_of _ (by decide +kernel)) ggX11_offerOf_X0_positionOf
set_option maxRecDepth 20000 in
theorem ggX11_offerOf_X11_findBest : GoodIn wsX11_offerOf wsX11_findBest := goodIn_ca (goodIn_ca (goodIn_r _ [18, 19, 4, 20, 21, 22, 23, 24, 25, 26, 27, 28, 29, 30, 31, 32, 33, 34, 35, 36, 37, 38, 39, 40, 41, 42, 43, 8, 44, 10, 45, 13, 46, 47, 48, 49, 50, 51, 52, 53, 54, 55, 56, 57, 58, 59, 60, 61, 62, 63, 64, 65, 66, 67, 68, 69, 70, 71, 72, 12, 14, 73, 74, 75, 76, 77, 78, 79, 80, 81, 82, 83, 84, 85, 86, 87, 88, 89, 90, 91, 92, 93, 94, 95, 96, 97, 98, 99, 100, 101, 102, 103, 104, 105, 106, 107, 108, 109, 110, 111, 112, 113, 114, 115, 116, 117, 118, 119, 120, 121, 122, 123, 124, 125, 126, 127, 128, 129, 130, 131, 132, 133, 134, 135, 136, 137, 138, 139, 140, 141, 142, 143, 144, 145, 146, 147, 148, 149, 150, 151, 152, 153, 154, 155, 156, 157, 158, 159, 160, 161, 162, 163, 164, 165, 166, 167, 168, 169, 170, 171, 172, 173, 174, 175, 176, 177, 178, 179, 180, 181, 182, 183, 184, 185, 186, 187, 188, 189, 190, 191, 192, 193, 194, 195, 196, 197, 198, 199, 200, 201, 202, 203, 204, 205, 206, 207, 208, 209, 210, 211, 212, 213, 214, 215, 216, 217, 218, 219, 220, 221, 222, 223, 224, 225, 226, 227, 228, 229, 230, 231, 232, 233, 234, 235, 236, 237, 238, 239, 240, 241, 242, 243, 244, 245, 246, 247, 248, 249, 250, 251, 252, 253, 254, 255, 256, 257, 258, 259, 260, 261, 262, 263, 264, 265, 266, 267, 268, 269, 270, 271, 272, 273, 274, 275, 276, 277, 278, 279, 280, 281, 282, 283, 284, 285, 286, 287, 288, 289, 290, 291, 292, 293, 299, 300, 301, 302, 303, 304, 305, 311, 312, 313, 314, 315, 316, 317, 318, 319, 320, 321, 322, 323, 324, 325, 326, 327, 306, 307, 308, 309, 310, 328, 329, 330, 331, 332, 333, 334, 335, 336, 337, 338, 339, 340, 341, 342, 343, 344, 345, 346, 347, 348, 349, 350, 351, 352, 353, 354, 355, 356, 357, 358] (by decide +kernel) (by decide +kernel)) (goodIn_sub (fun _ h => List.mem_cons_of_mem _ (List.mem_append_left _ (List.mem_append_right _ h))) (by decide +kernel))) (goodIn_sub (fun _ h => List.mem_cons_of_mem _ (List.mem_append_right _ h)) (by decide +kernel))
set_option maxRecDepth 20000 in
theorem gX11_offerOf_X11_findBest : GoodIn wsX11_offerOf (wsV RX11 149 RX11 yX11_findBest wsX11_findBest) := goodIn_app (goodIn_of _ (by decide +kernel)) ggX11_offerOf_X11_findBest
set_option maxRecDepth 20000 in
theorem ggX11_offerOf_X8_offerOn : GoodIn wsX11_offerOf wsX8_offerOn := goodIn_ca (goodIn_r _ [297, 27, 298, 266, 267, 25, 268, 235, 269, 13, 270, 12, 14, 190, 191, 192, 37, 193, 163, 128, 129, 244, 245, 246, 247, 162, 311, 312, 313, 314, 315, 316, 317, 318, 319, 320, 321, 322, 323, 324, 325, 326, 327] (by decide +kernel) (by decide +kernel)) (goodIn_sub (fun _ h => List.mem_cons_of_mem _ (List.mem_append_left _ (List.mem_append_right _ h))) (by decide +kernel))
set_option maxRecDepth 20000 in
theorem gX11_offerOf_X8_offerOn : GoodIn wsX11_offerOf (wsV RX11 163 RX8 yX8_offerOn wsX8_offerOn) := goodIn_app (goodIn_of _ (by decide +kernel)) ggX11_offerOf_X8_offerOn
theorem dX11_offerOf_0 : decode cX11_offerOf 0 = .ok (.aload_n 0, 1) := by decide +kernel
theorem dX11_offerOf_1 : decode cX11_offerOf 1 = .ok (.getfield 10, 3) := by decide +kernel
theorem dX11_offerOf_4 : decode cX11_offerOf 4 = .ok (.iload_n 1, 1) := by decide +kernel
theorem dX11_offerOf_5 : decode cX11_offerOf 5 = .ok (.invokevirtual 76, 3) := by decide +kernel
theorem dX11_offerOf_8 : decode cX11_offerOf 8 = .ok (.istore_n 2, 1) := by decide +kernel
theorem dX11_offerOf_9 : decode cX11_offerOf 9 = .ok (.iload_n 2, 1) := by decide +kernel
theorem dX11_offerOf_10 : decode cX11_offerOf 10 = .ok (.iconst (-1), 1) := by decide +kernel
theorem dX11_offerOf_11 : decode cX11_offerOf 11 = .ok (.if_icmp .ne 13, 3) := by decide +kernel
theorem dX11_offerOf_14 : decode cX11_offerOf 14 = .ok (.new 80, 3) := by decide +kernel
theorem dX11_offerOf_17 : decode cX11_offerOf 17 = .ok (.dup, 1) := by decide +kernel
theorem dX11_offerOf_18 : decode cX11_offerOf 18 = .ok (.ldc 82, 2) := by decide +kernel
theorem dX11_offerOf_20 : decode cX11_offerOf 20 = .ok (.invokespecial 84, 3) := by decide +kernel
theorem dX11_offerOf_23 : decode cX11_offerOf 23 = .ok (.athrow, 1) := by decide +kernel
theorem dX11_offerOf_24 : decode cX11_offerOf 24 = .ok (.aload_n 0, 1) := by decide +kernel
theorem dX11_offerOf_25 : decode cX11_offerOf 25 = .ok (.invokevirtual 149, 3) := by decide +kernel
theorem dX11_offerOf_28 : decode cX11_offerOf 28 = .ok (.aload_n 0, 1) := by decide +kernel
theorem dX11_offerOf_29 : decode cX11_offerOf 29 = .ok (.getfield 28, 3) := by decide +kernel
theorem dX11_offerOf_32 : decode cX11_offerOf 32 = .ok (.iload_n 2, 1) := by decide +kernel
theorem dX11_offerOf_33 : decode cX11_offerOf 33 = .ok (.invokevirtual 163, 3) := by decide +kernel
theorem dX11_offerOf_36 : decode cX11_offerOf 36 = .ok (.ireturn, 1) := by decide +kernel
set_option maxRecDepth 20000 in
theorem ggX11_uses_X6_has : GoodIn wsX11_uses wsX6_has := goodIn_r _ [9, 10, 305, 306, 307, 308, 309, 310] (by decide +kernel) (by decide +kernel)
set_option maxRecDepth 20000 in
theorem gX11_uses_X6_has : GoodIn wsX11_uses (wsV RX11 136 RX6 yX6_has wsX6_has) := goodIn_app (goodIn_of _ (by decide +kernel)) ggX11_uses_X6_has
set_option maxRecDepth 20000 in
theorem ggX11_uses_X11_findBest : GoodIn wsX11_uses wsX11_findBest := goodIn_ca (goodIn_ca (goodIn_r _ [15, 16, 4, 17, 18, 19, 20, 21, 22, 23, 24, 25, 26, 27, 28, 29, 30, 31, 32, 33, 34, 35, 36, 37, 38, 39, 40, 41, 42, 43, 44, 14, 45, 46, 47, 48, 8, 49, 10, 50, 51, 52, 53, 54, 55, 56, 57, 58, 59, 60, 61, 62, 63, 64, 65, 66, 67, 68, 69, 70, 71, 72, 73, 74, 75, 76, 77, 78, 79, 80, 81, 82, 83, 84, 85, 86, 87, 88, 89, 90, 91, 92, 93, 94, 95, 96, 97, 98, 99, 100, 101, 102, 103, 104, 105, 106, 107, 108, 109, 110, 111, 112, 113, 114, 115, 116, 117, 118, 119, 120, 121, 122, 123, 124, 125, 126, 127, 128, 129, 130, 131, 132, 133, 134, 135, 136, 137, 138, 139, 140, 141, 142, 143, 144, 145, 146, 147, 148, 149, 150, 151, 152, 153, 154, 155, 156, 157, 158, 159, 160, 161, 162, 163, 164, 165, 166, 167, 168, 169, 170, 171, 172, 173, 174, 175, 176, 177, 178, 179, 180, 181, 182, 183, 184, 185, 186, 187, 188, 189, 190, 191, 192, 193, 194, 195, 196, 197, 198, 199, 200, 201, 202, 203, 204, 205, 206, 207, 208, 209, 210, 211, 212, 213, 214, 215, 216, 217, 218, 219, 220, 221, 222, 223, 224, 225, 226, 227, 228, 229, 230, 231, 232, 233, 234, 235, 236, 237, 238, 239, 240, 241, 242, 243, 244, 245, 246, 247, 248, 249, 250, 251, 252, 253, 254, 255, 256, 257, 258, 259, 260, 261, 262, 263, 264, 265, 266, 267, 268, 269, 270, 271, 272, 273, 274, 275, 276, 277, 278, 279, 280, 281, 282, 283, 284, 285, 286, 287, 288, 289, 290, 291, 292, 298, 299, 300, 301, 302, 303, 304, 311, 312, 313, 314, 315, 316, 317, 318, 319, 320, 321, 322, 323, 324, 325, 326, 327, 328, 329, 330, 331, 332, 305, 306, 307, 308, 309, 310, 333, 334, 335, 336, 337, 338, 339, 340, 341, 342, 343, 344, 345, 346, 347, 348, 349, 350, 351, 352, 353, 354, 355, 356, 357] (by decide +kernel) (by decide +kernel)) (goodIn_sub (fun _ h => List.mem_cons_of_mem _ (List.mem_append_left _ (List.mem_append_right _ h))) (by decide +kernel))) (goodIn_sub (fun _ h => List.mem_cons_of_mem _ (List.mem_append_right _ h)) (by decide +kernel))
set_option maxRecDepth 20000 in
theorem gX11_uses_X11_findBest : GoodIn wsX11_uses (wsV RX11 149 RX11 yX11_findBest wsX11_findBest) := goodIn_app (goodIn_of _ (by decide +kernel)) ggX11_uses_X11_findBest
set_option maxRecDepth 20000 in
theorem ggX11_uses_X8_timesOf : GoodIn wsX11_uses wsX8_timesOf := goodIn_ca (goodIn_r _ [296, 24, 233, 297, 265, 266, 22, 267, 234, 268, 14, 269, 70, 71, 243, 244, 245, 34, 246, 161, 311, 312, 313, 314, 315, 316, 317, 318, 319, 320, 321, 322, 323, 324, 325, 326, 327] (by decide +kernel) (by decide +kernel)) (goodIn_sub (fun _ h => List.mem_cons_of_mem _ (List.mem_append_left _ (List.mem_append_right _ h))) (by decide +kernel))
set_option maxRecDepth 20000 in
theorem gX11_uses_X8_timesOf : GoodIn wsX11_uses (wsV RX11 166 RX8 yX8_timesOf wsX8_timesOf) := goodIn_app (goodIn_of _ (by decide +kernel)) ggX11_uses_X8_timesOf
theorem dX11_uses_0 : decode cX11_uses 0 = .ok (.aload_n 0, 1) := by decide +kernel
theorem dX11_uses_1 : decode cX11_uses 1 = .ok (.getfield 19, 3) := by decide +kernel
theorem dX11_uses_4 : decode cX11_uses 4 = .ok (.iload_n 1, 1) := by decide +kernel
theorem dX11_uses_5 : decode cX11_uses 5 = .ok (.invokevirtual 136, 3) := by decide +kernel
theorem dX11_uses_8 : decode cX11_uses 8 = .ok (.ifCond .ne 13, 3) := by decide +kernel
theorem dX11_uses_11 : decode cX11_uses 11 = .ok (.new 140, 3) := by decide +kernel
theorem dX11_uses_14 : decode cX11_uses 14 = .ok (.dup, 1) := by decide +kernel
theorem dX11_uses_15 : decode cX11_uses 15 = .ok (.ldc 142, 2) := by decide +kernel
theorem dX11_uses_17 : decode cX11_uses 17 = .ok (.invokespecial 144, 3) := by decide +kernel
theorem dX11_uses_20 : decode cX11_uses 20 = .ok (.athrow, 1) := by decide +kernel
theorem dX11_uses_21 : decode cX11_uses 21 = .ok (.aload_n 0, 1) := by decide +kernel
theorem dX11_uses_22 : decode cX11_uses 22 = .ok (.invokevirtual 149, 3) := by decide +kernel
theorem dX11_uses_25 : decode cX11_uses 25 = .ok (.aload_n 0, 1) := by decide +kernel
theorem dX11_uses_26 : decode cX11_uses 26 = .ok (.getfield 28, 3) := by decide +kernel
theorem dX11_uses_29 : decode cX11_uses 29 = .ok (.iload_n 1, 1) := by decide +kernel
theorem dX11_uses_30 : decode cX11_uses 30 = .ok (.invokevirtual 166, 3) := by decide +kernel
theorem dX11_uses_33 : decode cX11_uses 33 = .ok (.ireturn, 1) := by decide +kernel
set_option maxRecDepth 20000 in
theorem ggX11_reason_X6_has : GoodIn wsX11_reason wsX6_has := goodIn_r _ [10, 11, 314, 315, 316, 317, 318, 319] (by decide +kernel) (by decide +kernel)
set_option maxRecDepth 20000 in
theorem gX11_reason_X6_has : GoodIn wsX11_reason (wsV RX11 136 RX6 yX6_has wsX6_has) := goodIn_app (goodIn_of _ (by decide +kernel)) ggX11_reason_X6_has
set_option maxRecDepth 20000 in
theorem ggX11_reason_X11_findBest : GoodIn wsX11_reason wsX11_findBest := goodIn_ca (goodIn_ca (goodIn_r _ [16, 17, 4, 5, 18, 19, 20, 21, 22, 23, 24, 25, 26, 27, 28, 29, 30, 31, 32, 33, 34, 35, 36, 37, 38, 39, 40, 41, 42, 43, 44, 15, 45, 46, 47, 48, 9, 49, 11, 50, 51, 52, 53, 54, 55, 56, 57, 58, 59, 60, 61, 62, 63, 64, 65, 66, 67, 68, 69, 70, 71, 72, 73, 74, 75, 76, 77, 78, 79, 80, 81, 82, 83, 84, 85, 86, 87, 88, 89, 90, 91, 92, 93, 94, 95, 96, 97, 98, 99, 100, 101, 102, 103, 104, 105, 106, 107, 108, 109, 110, 111, 112, 113, 114, 115, 116, 117, 118, 119, 120, 121, 122, 123, 124, 125, 126, 127, 128, 129, 130, 131, 132, 133, 134, 135, 136, 137, 138, 139, 140, 141, 142, 143, 144, 145, 146, 147, 148, 149, 150, 151, 152, 153, 154, 155, 156, 157, 158, 159, 160, 161, 162, 163, 164, 165, 166, 167, 168, 169, 170, 171, 172, 173, 174, 175, 176, 177, 178, 179, 180, 181, 182, 183, 184, 185, 186, 187, 188, 189, 190, 191, 192, 193, 194, 195, 196, 197, 198, 199, 200, 201, 202, 203, 204, 205, 206, 207, 208, 209, 210, 211, 212, 213, 214, 215, 216, 217, 218, 219, 220, 221, 222, 223, 224, 225, 226, 227, 228, 229, 230, 231, 232, 233, 234, 235, 236, 237, 238, 239, 240, 241, 242, 243, 244, 245, 246, 247, 248, 249, 250, 251, 252, 253, 254, 255, 256, 257, 258, 259, 260, 261, 262, 263, 264, 265, 266, 267, 268, 269, 270, 271, 272, 273, 274, 275, 276, 277, 278, 279, 280, 281, 282, 283, 284, 285, 286, 287, 288, 289, 290, 291, 292, 307, 308, 309, 310, 311, 312, 313, 320, 321, 322, 323, 324, 325, 326, 327, 328, 329, 330, 331, 332, 333, 334, 335, 336, 337, 338, 339, 340, 341, 314, 315, 316, 317, 318, 319, 342, 343, 344, 345, 346, 347, 348, 349, 350, 351, 352, 353, 354, 355, 356, 357, 358, 359, 360, 361, 362, 363, 364, 365, 366] (by decide +kernel) (by decide +kernel)) (goodIn_sub (fun _ h => List.mem_cons_of_mem _ (List.mem_append_left _ (List.mem_append_right _ h))) (by decide +kernel))) (goodIn_sub (fun _ h => List.mem_cons_of_mem _ (List.mem_append_right _ h)) (by decide +kernel))
set_option maxRecDepth 20000 in
theorem gX11_reason_X11_findBest : GoodIn wsX11_reason (wsV RX11 149 RX11 yX11_findBest wsX11_findBest) := goodIn_app (goodIn_of _ (by decide +kernel)) ggX11_reason_X11_findBest
set_option maxRecDepth 20000 in
theorem ggX11_reason_X8_timesOf : GoodIn wsX11_reason wsX8_timesOf := goodIn_ca (goodIn_r _ [296, 24, 233, 297, 265, 266, 22, 267, 234, 268, 15, 269, 70, 71, 243, 244, 245, 34, 246, 161, 320, 321, 322, 323, 324, 325, 326, 327, 328, 329, 330, 331, 332, 333, 334, 335, 336] (by decide +kernel) (by decide +kernel)) (goodIn_sub (fun _ h => List.mem_cons_of_mem _ (List.mem_append_left _ (List.mem_append_right _ h))) (by decide +kernel))
set_option maxRecDepth 20000 in
theorem gX11_reason_X8_timesOf : GoodIn wsX11_reason (wsV RX11 166 RX8 yX8_timesOf wsX8_timesOf) := goodIn_app (goodIn_of _ (by decide +kernel)) ggX11_reason_X8_timesOf
set_option maxRecDepth 20000 in
theorem ggX11_reason_X6_leftFor : GoodIn wsX11_reason wsX6_leftFor := goodIn_ca (goodIn_r _ [53, 54, 55, 56, 57, 9, 58, 59, 60, 61, 62, 63, 64, 65, 66, 67, 68, 69, 70, 15, 71, 314, 315, 316, 317, 318, 319, 342, 343, 344, 345, 346, 347, 348, 349, 350, 351, 352, 353, 354, 355, 356, 357, 358, 359, 360, 361, 362] (by decide +kernel) (by decide +kernel)) (goodIn_sub (fun _ h => List.mem_cons_of_mem _ (List.mem_append_left _ (List.mem_append_right _ h))) (by decide +kernel))
set_option maxRecDepth 20000 in
theorem gX11_reason_X6_leftFor : GoodIn wsX11_reason (wsV RX11 145 RX6 yX6_leftFor wsX6_leftFor) := goodIn_app (goodIn_of _ (by decide +kernel)) ggX11_reason_X6_leftFor
set_option maxRecDepth 20000 in
theorem ggX11_reason_X8_isPossible : GoodIn wsX11_reason wsX8_isPossible := goodIn_ca (goodIn_r _ [302, 24, 26, 28, 185, 186, 187, 34, 188, 36, 243, 244, 245, 246, 161, 70, 15, 71, 216, 217, 218, 9, 219, 220, 320, 321, 322, 323, 324, 325, 326, 327, 328, 329, 330, 331, 332, 333, 334, 335, 336, 314, 315, 316, 317, 318, 319] (by decide +kernel) (by decide +kernel)) (goodIn_sub (fun _ h => List.mem_cons_of_mem _ (List.mem_append_left _ (List.mem_append_right _ h))) (by decide +kernel))
set_option maxRecDepth 20000 in
theorem gX11_reason_X8_isPossible : GoodIn wsX11_reason (wsV RX11 169 RX8 yX8_isPossible wsX8_isPossible) := goodIn_app (goodIn_of _ (by decide +kernel)) ggX11_reason_X8_isPossible
set_option maxRecDepth 20000 in
theorem ggX11_reason_X8_usesRivalOf : GoodIn wsX11_reason wsX8_usesRivalOf := goodIn_ca (goodIn_r _ [306, 26, 233, 211, 212, 213, 9, 214, 215, 70, 15, 71, 320, 321, 322, 323, 324, 325, 326, 327, 328, 329, 330, 331, 314, 315, 316, 317, 318, 319] (by decide +kernel) (by decide +kernel)) (goodIn_sub (fun _ h => List.mem_cons_of_mem _ (List.mem_append_left _ (List.mem_append_right _ h))) (by decide +kernel))
set_option maxRecDepth 20000 in
theorem gX11_reason_X8_usesRivalOf : GoodIn wsX11_reason (wsV RX11 172 RX8 yX8_usesRivalOf wsX8_usesRivalOf) := goodIn_app (goodIn_of _ (by decide +kernel)) ggX11_reason_X8_usesRivalOf
theorem dX11_reason_0 : decode cX11_reason 0 = .ok (.aload_n 0, 1) := by decide +kernel
theorem dX11_reason_1 : decode cX11_reason 1 = .ok (.getfield 19, 3) := by decide +kernel
theorem dX11_reason_4 : decode cX11_reason 4 = .ok (.iload_n 1, 1) := by decide +kernel
theorem dX11_reason_5 : decode cX11_reason 5 = .ok (.invokevirtual 136, 3) := by decide +kernel
theorem dX11_reason_8 : decode cX11_reason 8 = .ok (.ifCond .ne 13, 3) := by decide +kernel
theorem dX11_reason_11 : decode cX11_reason 11 = .ok (.new 140, 3) := by decide +kernel
theorem dX11_reason_14 : decode cX11_reason 14 = .ok (.dup, 1) := by decide +kernel
theorem dX11_reason_15 : decode cX11_reason 15 = .ok (.ldc 142, 2) := by decide +kernel
theorem dX11_reason_17 : decode cX11_reason 17 = .ok (.invokespecial 144, 3) := by decide +kernel
theorem dX11_reason_20 : decode cX11_reason 20 = .ok (.athrow, 1) := by decide +kernel
theorem dX11_reason_21 : decode cX11_reason 21 = .ok (.aload_n 0, 1) := by decide +kernel
theorem dX11_reason_22 : decode cX11_reason 22 = .ok (.invokevirtual 149, 3) := by decide +kernel
theorem dX11_reason_25 : decode cX11_reason 25 = .ok (.aload_n 0, 1) := by decide +kernel
theorem dX11_reason_26 : decode cX11_reason 26 = .ok (.getfield 28, 3) := by decide +kernel
theorem dX11_reason_29 : decode cX11_reason 29 = .ok (.iload_n 1, 1) := by decide +kernel
theorem dX11_reason_30 : decode cX11_reason 30 = .ok (.invokevirtual 166, 3) := by decide +kernel
theorem dX11_reason_33 : decode cX11_reason 33 = .ok (.ifCond .le 6, 3) := by decide +kernel
theorem dX11_reason_36 : decode cX11_reason 36 = .ok (.bipush 117, 2) := by decide +kernel
theorem dX11_reason_38 : decode cX11_reason 38 = .ok (.ireturn, 1) := by decide +kernel
theorem dX11_reason_39 : decode cX11_reason 39 = .ok (.aload_n 0, 1) := by decide +kernel
theorem dX11_reason_40 : decode cX11_reason 40 = .ok (.getfield 19, 3) := by decide +kernel
theorem dX11_reason_43 : decode cX11_reason 43 = .ok (.aload_n 0, 1) := by decide +kernel
theorem dX11_reason_44 : decode cX11_reason 44 = .ok (.getfield 95, 3) := by decide +kernel
theorem dX11_reason_47 : decode cX11_reason 47 = .ok (.iload_n 1, 1) := by decide +kernel
theorem dX11_reason_48 : decode cX11_reason 48 = .ok (.invokevirtual 145, 3) := by decide +kernel
theorem dX11_reason_51 : decode cX11_reason 51 = .ok (.ifCond .gt 6, 3) := by decide +kernel
theorem dX11_reason_54 : decode cX11_reason 54 = .ok (.bipush 108, 2) := by decide +kernel
theorem dX11_reason_56 : decode cX11_reason 56 = .ok (.ireturn, 1) := by decide +kernel
theorem dX11_reason_57 : decode cX11_reason 57 = .ok (.aload_n 0, 1) := by decide +kernel
theorem dX11_reason_58 : decode cX11_reason 58 = .ok (.getfield 28, 3) := by decide +kernel
theorem dX11_reason_61 : decode cX11_reason 61 = .ok (.iload_n 1, 1) := by decide +kernel
theorem dX11_reason_62 : decode cX11_reason 62 = .ok (.invokevirtual 169, 3) := by decide +kernel
theorem dX11_reason_65 : decode cX11_reason 65 = .ok (.ifCond .ne 6, 3) := by decide +kernel
theorem dX11_reason_68 : decode cX11_reason 68 = .ok (.bipush 99, 2) := by decide +kernel
theorem dX11_reason_70 : decode cX11_reason 70 = .ok (.ireturn, 1) := by decide +kernel
theorem dX11_reason_71 : decode cX11_reason 71 = .ok (.aload_n 0, 1) := by decide +kernel
theorem dX11_reason_72 : decode cX11_reason 72 = .ok (.getfield 28, 3) := by decide +kernel
theorem dX11_reason_75 : decode cX11_reason 75 = .ok (.iload_n 1, 1) := by decide +kernel
theorem dX11_reason_76 : decode cX11_reason 76 = .ok (.invokevirtual 172, 3) := by decide +kernel
theorem dX11_reason_79 : decode cX11_reason 79 = .ok (.ifCond .eq 8, 3) := by decide +kernel
theorem dX11_reason_82 : decode cX11_reason 82 = .ok (.bipush 103, 2) := by decide +kernel
theorem dX11_reason_84 : decode cX11_reason 84 = .ok (.goto 5, 3) := by decide +kernel
theorem dX11_reason_87 : decode cX11_reason 87 = .ok (.bipush 98, 2) := by decide +kernel
theorem dX11_reason_89 : decode cX11_reason 89 = .ok (.ireturn, 1) := by decide +kernel
set_option maxRecDepth 20000 in
theorem ggX11_netPrice_X0_positionOf : GoodIn wsX11_netPrice wsX0_positionOf := goodIn_ca (goodIn_r _ [9, 10, 11, 12, 13, 14, 305, 306, 307, 308, 309] (by decide +kernel) (by decide +kernel)) (goodIn_sub (fun _ h => List.mem_cons_of_mem _ (List.mem_append_left _ (List.mem_append_right _ h))) (by decide +kernel))
set_option maxRecDepth 20000 in
theorem gX11_netPrice_X0_positionOf : GoodIn wsX11_netPrice (wsV RX11 76 RX0 yX0_positionOf wsX0_positionOf) := goodIn_app (goodIn_of _ (by decide +kernel)) ggX11_netPrice_X0_positionOf
set_option maxRecDepth 20000 in
theorem ggX11_netPrice_X11_findBest : GoodIn wsX11_netPrice wsX11_findBest := goodIn_ca (goodIn_ca (goodIn_r _ [18, 19, 20, 21, 4, 22, 23, 24, 25, 26, 27, 28, 29, 30, 31, 32, 33, 34, 35, 36, 37, 38, 39, 40, 41, 42, 43, 8, 44, 10, 45, 13, 46, 47, 48, 49, 50, 51, 52, 53, 54, 55, 56, 57, 58, 59, 60, 61, 62, 63, 64, 65, 66, 67, 68, 69, 70, 71, 72, 12, 14, 73, 74, 75, 76, 77, 78, 79, 80, 81, 82, 83, 84, 85, 86, 87, 88, 89, 90, 91, 92, 93, 94, 95, 96, 97, 98, 99, 100, 101, 102, 103, 104, 105, 106, 107, 108, 109, 110, 111, 112, 113, 114, 115, 116, 117, 118, 119, 120, 121, 122, 123, 124, 125, 126, 127, 128, 129, 130, 131, 132, 133, 134, 135, 136, 137, 138, 139, 140, 141, 142, 143, 144, 145, 146, 147, 148, 149, 150, 151, 152, 153, 154, 155, 156, 157, 158, 159, 160, 161, 162, 163, 164, 165, 166, 167, 168, 169, 170, 171, 172, 173, 174, 175, 176, 177, 178, 179, 180, 181, 182, 183, 184, 185, 186, 187, 188, 189, 190, 191, 192, 193, 194, 195, 196, 197, 198, 199, 200, 201, 202, 203, 204, 205, 206, 207, 208, 209, 210, 211, 212, 213, 214, 215, 216, 217, 218, 219, 220, 221, 222, 223, 224, 225, 226, 227, 228, 229, 230, 231, 232, 233, 234, 235, 236, 237, 238, 239, 240, 241, 242, 243, 244, 245, 246, 247, 248, 249, 250, 251, 252, 253, 254, 255, 256, 257, 258, 259, 260, 261, 262, 263, 264, 265, 266, 267, 268, 269, 270, 271, 272, 273, 274, 275, 276, 277, 278, 279, 280, 281, 282, 283, 284, 285, 286, 287, 288, 289, 290, 291, 292, 293, 298, 299, 300, 301, 302, 303, 304, 310, 311, 312, 313, 314, 315, 316, 317, 318, 319, 320, 321, 322, 323, 324, 325, 326, 305, 306, 307, 308, 309, 327, 328, 329, 330, 331, 332, 333, 334, 335, 336, 337, 338, 339, 340, 341, 342, 343, 344, 345, 346, 347, 348, 349, 350, 351, 352, 353, 354, 355, 356, 357] (by decide +kernel) (by decide +kernel)) (goodIn_sub (fun _ h => List.mem_cons_of_mem _ (List.mem_append_left _ (List.mem_append_right _ h))) (by decide +kernel))) (goodIn_sub (fun _ h => List.mem_cons_of_mem _ (List.mem_append_right _ h)) (by decide +kernel))
set_option maxRecDepth 20000 in
theorem gX11_netPrice_X11_findBest : GoodIn wsX11_netPrice (wsV RX11 149 RX11 yX11_findBest wsX11_findBest) := goodIn_app (goodIn_of _ (by decide +kernel)) ggX11_netPrice_X11_findBest
set_option maxRecDepth 20000 in
theorem ggX11_netPrice_X1_netAt : GoodIn wsX11_netPrice wsX1_netAt := goodIn_ca (goodIn_r _ [297, 257, 12, 13, 14, 354, 355, 356, 357] (by decide +kernel) (by decide +kernel)) (goodIn_sub (fun _ h => List.mem_cons_of_mem _ (List.mem_append_left _ (List.mem_append_right _ h))) (by decide +kernel))
set_option maxRecDepth 20000 in
theorem gX11_netPrice_X1_netAt : GoodIn wsX11_netPrice (wsV RX11 175 RX1 yX1_netAt wsX1_netAt) := goodIn_app (goodIn_of _ (by decide +kernel)) ggX11_netPrice_X1_netAt
theorem dX11_netPrice_0 : decode cX11_netPrice 0 = .ok (.aload_n 0, 1) := by decide +kernel
theorem dX11_netPrice_1 : decode cX11_netPrice 1 = .ok (.getfield 10, 3) := by decide +kernel
theorem dX11_netPrice_4 : decode cX11_netPrice 4 = .ok (.iload_n 1, 1) := by decide +kernel
theorem dX11_netPrice_5 : decode cX11_netPrice 5 = .ok (.invokevirtual 76, 3) := by decide +kernel
theorem dX11_netPrice_8 : decode cX11_netPrice 8 = .ok (.istore_n 2, 1) := by decide +kernel
theorem dX11_netPrice_9 : decode cX11_netPrice 9 = .ok (.iload_n 2, 1) := by decide +kernel
theorem dX11_netPrice_10 : decode cX11_netPrice 10 = .ok (.iconst (-1), 1) := by decide +kernel
theorem dX11_netPrice_11 : decode cX11_netPrice 11 = .ok (.if_icmp .ne 13, 3) := by decide +kernel
theorem dX11_netPrice_14 : decode cX11_netPrice 14 = .ok (.new 80, 3) := by decide +kernel
theorem dX11_netPrice_17 : decode cX11_netPrice 17 = .ok (.dup, 1) := by decide +kernel
theorem dX11_netPrice_18 : decode cX11_netPrice 18 = .ok (.ldc 82, 2) := by decide +kernel
theorem dX11_netPrice_20 : decode cX11_netPrice 20 = .ok (.invokespecial 84, 3) := by decide +kernel
theorem dX11_netPrice_23 : decode cX11_netPrice 23 = .ok (.athrow, 1) := by decide +kernel
theorem dX11_netPrice_24 : decode cX11_netPrice 24 = .ok (.aload_n 0, 1) := by decide +kernel
theorem dX11_netPrice_25 : decode cX11_netPrice 25 = .ok (.invokevirtual 149, 3) := by decide +kernel
theorem dX11_netPrice_28 : decode cX11_netPrice 28 = .ok (.aload_n 0, 1) := by decide +kernel
theorem dX11_netPrice_29 : decode cX11_netPrice 29 = .ok (.getfield 37, 3) := by decide +kernel
theorem dX11_netPrice_32 : decode cX11_netPrice 32 = .ok (.iload_n 2, 1) := by decide +kernel
theorem dX11_netPrice_33 : decode cX11_netPrice 33 = .ok (.invokevirtual 175, 3) := by decide +kernel
theorem dX11_netPrice_36 : decode cX11_netPrice 36 = .ok (.ireturn, 1) := by decide +kernel
set_option maxRecDepth 20000 in
theorem ggX11_toPay_X11_findBest : GoodIn wsX11_toPay wsX11_findBest := goodIn_ca (goodIn_ca (goodIn_r _ [6, 7, 8, 9, 1, 10, 11, 12, 13, 14, 15, 16, 17, 18, 19, 20, 21, 22, 23, 24, 25, 26, 27, 28, 29, 30, 31, 32, 33, 34, 35, 5, 36, 37, 38, 39, 40, 41, 42, 43, 44, 45, 46, 47, 48, 49, 50, 51, 52, 53, 54, 55, 56, 57, 58, 59, 60, 61, 62, 63, 64, 65, 66, 67, 68, 69, 70, 71, 72, 73, 74, 75, 76, 77, 78, 79, 80, 81, 82, 83, 84, 85, 86, 87, 88, 89, 90, 91, 92, 93, 94, 95, 96, 97, 98, 99, 100, 101, 102, 103, 104, 105, 106, 107, 108, 109, 110, 111, 112, 113, 114, 115, 116, 117, 118, 119, 120, 121, 122, 123, 124, 125, 126, 127, 128, 129, 130, 131, 132, 133, 134, 135, 136, 137, 138, 139, 140, 141, 142, 143, 144, 145, 146, 147, 148, 149, 150, 151, 152, 153, 154, 155, 156, 157, 158, 159, 160, 161, 162, 163, 164, 165, 166, 167, 168, 169, 170, 171, 172, 173, 174, 175, 176, 177, 178, 179, 180, 181, 182, 183, 184, 185, 186, 187, 188, 189, 190, 191, 192, 193, 194, 195, 196, 197, 198, 199, 200, 201, 202, 203, 204, 205, 206, 207, 208, 209, 210, 211, 212, 213, 214, 215, 216, 217, 218, 219, 220, 221, 222, 223, 224, 225, 226, 227, 228, 229, 230, 231, 232, 233, 234, 235, 236, 237, 238, 239, 240, 241, 242, 243, 244, 245, 246, 247, 248, 249, 250, 251, 252, 253, 254, 255, 256, 257, 258, 259, 260, 261, 262, 263, 264, 265, 266, 267, 268, 269, 270, 271, 272, 273, 274, 275, 276, 277, 278, 279, 280, 281, 282, 283, 284, 285, 290, 291, 292, 293, 294, 295, 296, 297, 298, 299, 300, 301, 302, 303, 304, 305, 306, 307, 308, 309, 310, 311, 312, 313, 314, 315, 316, 317, 318, 319, 320, 321, 322, 323, 324, 325, 326, 327, 328, 329, 330, 331, 332, 333, 334, 335, 336, 337, 338, 339, 340, 341, 342, 343, 344, 345, 346, 347, 348, 349] (by decide +kernel) (by decide +kernel)) (goodIn_sub (fun _ h => List.mem_cons_of_mem _ (List.mem_append_left _ (List.mem_append_right _ h))) (by decide +kernel))) (goodIn_sub (fun _ h => List.mem_cons_of_mem _ (List.mem_append_right _ h)) (by decide +kernel))
set_option maxRecDepth 20000 in
theorem gX11_toPay_X11_findBest : GoodIn wsX11_toPay (wsV RX11 149 RX11 yX11_findBest wsX11_findBest) := goodIn_app (goodIn_of _ (by decide +kernel)) ggX11_toPay_X11_findBest
set_option maxRecDepth 20000 in
theorem ggX11_toPay_X1_total : GoodIn wsX11_toPay wsX1_total := goodIn_ca (goodIn_r _ [289, 250, 285, 73, 74, 32, 75, 34, 70, 5, 71, 277, 278, 279, 247, 280, 249, 120, 121, 63, 64, 346, 347, 348, 349, 314, 315, 316, 317, 318] (by decide +kernel) (by decide +kernel)) (goodIn_sub (fun _ h => List.mem_cons_of_mem _ (List.mem_append_left _ (List.mem_append_right _ h))) (by decide +kernel))
set_option maxRecDepth 20000 in
theorem gX11_toPay_X1_total : GoodIn wsX11_toPay (wsV RX11 178 RX1 yX1_total wsX1_total) := goodIn_app (goodIn_of _ (by decide +kernel)) ggX11_toPay_X1_total
theorem dX11_toPay_0 : decode cX11_toPay 0 = .ok (.aload_n 0, 1) := by decide +kernel
theorem dX11_toPay_1 : decode cX11_toPay 1 = .ok (.invokevirtual 149, 3) := by decide +kernel
theorem dX11_toPay_4 : decode cX11_toPay 4 = .ok (.aload_n 0, 1) := by decide +kernel
theorem dX11_toPay_5 : decode cX11_toPay 5 = .ok (.getfield 37, 3) := by decide +kernel
theorem dX11_toPay_8 : decode cX11_toPay 8 = .ok (.invokevirtual 178, 3) := by decide +kernel
theorem dX11_toPay_11 : decode cX11_toPay 11 = .ok (.ireturn, 1) := by decide +kernel
set_option maxRecDepth 20000 in
theorem ggX11_sell_X0_size : GoodIn wsX11_sell wsX0_size := goodIn_r _ [14, 15, 343, 344, 345, 346, 347] (by decide +kernel) (by decide +kernel)
set_option maxRecDepth 20000 in
theorem gX11_sell_X0_size : GoodIn wsX11_sell (wsV RX11 89 RX0 yX0_size wsX0_size) := goodIn_app (goodIn_of _ (by decide +kernel)) ggX11_sell_X0_size
set_option maxRecDepth 20000 in
theorem ggX11_sell_X11_findBest : GoodIn wsX11_sell wsX11_findBest := goodIn_ca (goodIn_ca (goodIn_r _ [20, 9, 8, 6, 4, 21, 22, 23, 24, 25, 26, 27, 28, 29, 30, 31, 32, 33, 34, 35, 36, 37, 38, 39, 40, 11, 12, 13, 14, 15, 41, 19, 42, 43, 44, 45, 46, 47, 48, 49, 50, 51, 52, 53, 54, 55, 56, 57, 58, 59, 60, 61, 62, 63, 64, 65, 66, 67, 68, 69, 70, 71, 72, 73, 74, 75, 76, 77, 78, 79, 80, 81, 82, 83, 84, 85, 86, 87, 88, 89, 90, 91, 92, 93, 94, 95, 96, 97, 98, 99, 100, 101, 102, 103, 104, 105, 106, 107, 108, 109, 110, 111, 112, 113, 114, 115, 116, 117, 118, 119, 120, 121, 122, 123, 124, 125, 126, 127, 128, 129, 130, 131, 132, 133, 134, 135, 136, 137, 138, 139, 140, 141, 142, 143, 144, 145, 146, 147, 148, 149, 150, 151, 152, 153, 154, 155, 156, 157, 158, 159, 160, 161, 162, 163, 164, 165, 166, 167, 168, 169, 170, 171, 172, 173, 174, 175, 176, 177, 178, 179, 180, 181, 182, 183, 184, 185, 186, 187, 188, 189, 190, 191, 192, 193, 194, 195, 196, 197, 198, 199, 200, 201, 202, 203, 204, 205, 206, 207, 208, 209, 210, 211, 212, 213, 214, 215, 216, 217, 218, 219, 220, 221, 222, 223, 224, 225, 226, 227, 228, 229, 230, 231, 232, 233, 234, 235, 236, 237, 238, 239, 240, 241, 242, 243, 244, 245, 246, 247, 248, 249, 250, 251, 252, 253, 254, 255, 256, 257, 258, 259, 260, 261, 262, 263, 264, 265, 266, 267, 268, 269, 270, 271, 272, 273, 274, 275, 276, 277, 278, 279, 280, 281, 282, 283, 284, 285, 286, 287, 288, 289, 290, 291, 336, 337, 338, 339, 340, 341, 342, 348, 349, 350, 351, 352, 353, 354, 355, 356, 357, 358, 359, 360, 361, 362, 363, 364, 343, 344, 345, 346, 347, 365, 366, 367, 368, 369, 370, 371, 372, 373, 374, 375, 376, 377, 378, 379, 380, 381, 382, 383, 384, 385, 386, 387, 388, 389, 390, 391, 392, 393, 394, 395] (by decide +kernel) (by decide +kernel)) (goodIn_sub (fun _ h => List.mem_cons_of_mem _ (List.mem_append_left _ (List.mem_append_right _ h))) (by decide +kernel))) (goodIn_sub (fun _ h => List.mem_cons_of_mem _ (List.mem_append_right _ h)) (by decide +kernel))
set_option maxRecDepth 20000 in
theorem gX11_sell_X11_findBest : GoodIn wsX11_sell (wsV RX11 149 RX11 yX11_findBest wsX11_findBest) := goodIn_app (goodIn_of _ (by decide +kernel)) ggX11_sell_X11_findBest
set_option maxRecDepth 20000 in
theorem ggX11_sell_X1_total : GoodIn wsX11_sell wsX1_total := goodIn_ca (goodIn_r _ [295, 256, 291, 79, 80, 13, 81, 15, 76, 19, 77, 283, 284, 285, 253, 286, 255, 126, 127, 69, 70, 392, 393, 394, 395, 343, 344, 345, 346, 347] (by decide +kernel) (by decide +kernel)) (goodIn_sub (fun _ h => List.mem_cons_of_mem _ (List.mem_append_left _ (List.mem_append_right _ h))) (by decide +kernel))
set_option maxRecDepth 20000 in
theorem gX11_sell_X1_total : GoodIn wsX11_sell (wsV RX11 178 RX1 yX1_total wsX1_total) := goodIn_app (goodIn_of _ (by decide +kernel)) ggX11_sell_X1_total
set_option maxRecDepth 20000 in
theorem ggX11_sell_X0_numberAt : GoodIn wsX11_sell wsX0_numberAt := goodIn_ca (goodIn_r _ [299, 300, 69, 19, 70, 343, 344, 345, 346, 347] (by decide +kernel) (by decide +kernel)) (goodIn_sub (fun _ h => List.mem_cons_of_mem _ (List.mem_append_left _ (List.mem_append_right _ h))) (by decide +kernel))
set_option maxRecDepth 20000 in
theorem gX11_sell_X0_numberAt : GoodIn wsX11_sell (wsV RX11 183 RX0 yX0_numberAt wsX0_numberAt) := goodIn_app (goodIn_of _ (by decide +kernel)) ggX11_sell_X0_numberAt
set_option maxRecDepth 20000 in
theorem ggX11_sell_X0_priceAt : GoodIn wsX11_sell wsX0_priceAt := goodIn_ca (goodIn_r _ [261, 132, 69, 19, 70, 343, 344, 345, 346, 347] (by decide +kernel) (by decide +kernel)) (goodIn_sub (fun _ h => List.mem_cons_of_mem _ (List.mem_append_left _ (List.mem_append_right _ h))) (by decide +kernel))
set_option maxRecDepth 20000 in
theorem gX11_sell_X0_priceAt : GoodIn wsX11_sell (wsV RX11 186 RX0 yX0_priceAt wsX0_priceAt) := goodIn_app (goodIn_of _ (by decide +kernel)) ggX11_sell_X0_priceAt
set_option maxRecDepth 20000 in
theorem ggX11_sell_X1_netAt : GoodIn wsX11_sell wsX1_netAt := goodIn_ca (goodIn_r _ [305, 255, 69, 19, 70, 392, 393, 394, 395] (by decide +kernel) (by decide +kernel)) (goodIn_sub (fun _ h => List.mem_cons_of_mem _ (List.mem_append_left _ (List.mem_append_right _ h))) (by decide +kernel))
set_option maxRecDepth 20000 in
theorem gX11_sell_X1_netAt : GoodIn wsX11_sell (wsV RX11 175 RX1 yX1_netAt wsX1_netAt) := goodIn_app (goodIn_of _ (by decide +kernel)) ggX11_sell_X1_netAt
set_option maxRecDepth 20000 in
theorem ggX11_sell_X4_enterSale : GoodIn wsX11_sell wsX4_enterSale := goodIn_ca (goodIn_r _ [310, 311, 312, 313, 314, 315, 316, 41, 19, 42, 396, 397, 398, 399, 400, 401, 402, 403, 404] (by decide +kernel) (by decide +kernel)) (goodIn_sub (fun _ h => List.mem_cons_of_mem _ (List.mem_append_left _ (List.mem_append_right _ h))) (by decide +kernel))
set_option maxRecDepth 20000 in
theorem gX11_sell_X4_enterSale : GoodIn wsX11_sell (wsV RX11 189 RX4 yX4_enterSale wsX4_enterSale) := goodIn_app (goodIn_of _ (by decide +kernel)) ggX11_sell_X4_enterSale
set_option maxRecDepth 20000 in
theorem ggX11_sell_X6_size : GoodIn wsX11_sell wsX6_size := goodIn_r _ [47, 48, 365, 366, 367, 368, 369, 370] (by decide +kernel) (by decide +kernel)
set_option maxRecDepth 20000 in
theorem gX11_sell_X6_size : GoodIn wsX11_sell (wsV RX11 148 RX6 yX6_size wsX6_size) := goodIn_app (goodIn_of _ (by decide +kernel)) ggX11_sell_X6_size
set_option maxRecDepth 20000 in
theorem ggX11_sell_X8_timesOf : GoodIn wsX11_sell wsX8_timesOf := goodIn_ca (goodIn_r _ [321, 26, 232, 322, 264, 265, 24, 266, 233, 267, 19, 268, 69, 70, 242, 243, 244, 36, 245, 160, 348, 349, 350, 351, 352, 353, 354, 355, 356, 357, 358, 359, 360, 361, 362, 363, 364] (by decide +kernel) (by decide +kernel)) (goodIn_sub (fun _ h => List.mem_cons_of_mem _ (List.mem_append_left _ (List.mem_append_right _ h))) (by decide +kernel))
set_option maxRecDepth 20000 in
theorem gX11_sell_X8_timesOf : GoodIn wsX11_sell (wsV RX11 166 RX8 yX8_timesOf wsX8_timesOf) := goodIn_app (goodIn_of _ (by decide +kernel)) ggX11_sell_X8_timesOf
set_option maxRecDepth 20000 in
theorem ggX11_sell_X6_countUses : GoodIn wsX11_sell wsX6_countUses := goodIn_ca (goodIn_r _ [326, 53, 69, 19, 70, 41, 42, 365, 366, 367, 368, 369, 370] (by decide +kernel) (by decide +kernel)) (goodIn_sub (fun _ h => List.mem_cons_of_mem _ (List.mem_append_left _ (List.mem_append_right _ h))) (by decide +kernel))
set_option maxRecDepth 20000 in
theorem gX11_sell_X6_countUses : GoodIn wsX11_sell (wsV RX11 192 RX6 yX6_countUses wsX6_countUses) := goodIn_app (goodIn_of _ (by decide +kernel)) ggX11_sell_X6_countUses
set_option maxRecDepth 20000 in
theorem ggX11_sell_X4_countUses : GoodIn wsX11_sell wsX4_countUses := goodIn_r _ [330, 331, 396, 397, 398, 399, 400, 401, 402, 403, 404] (by decide +kernel) (by decide +kernel)
set_option maxRecDepth 20000 in
theorem gX11_sell_X4_countUses : GoodIn wsX11_sell (wsV RX11 196 RX4 yX4_countUses wsX4_countUses) := goodIn_app (goodIn_of _ (by decide +kernel)) ggX11_sell_X4_countUses
set_option maxRecDepth 20000 in
theorem ggX11_sell_X0_clear : GoodIn wsX11_sell wsX0_clear := goodIn_r _ [335, 15, 343, 344, 345, 346, 347] (by decide +kernel) (by decide +kernel)
set_option maxRecDepth 20000 in
theorem gX11_sell_X0_clear : GoodIn wsX11_sell (wsV RX11 198 RX0 yX0_clear wsX0_clear) := goodIn_app (goodIn_of _ (by decide +kernel)) ggX11_sell_X0_clear
theorem dX11_sell_0 : decode cX11_sell 0 = .ok (.aload_n 0, 1) := by decide +kernel
theorem dX11_sell_1 : decode cX11_sell 1 = .ok (.getfield 10, 3) := by decide +kernel
theorem dX11_sell_4 : decode cX11_sell 4 = .ok (.invokevirtual 89, 3) := by decide +kernel
theorem dX11_sell_7 : decode cX11_sell 7 = .ok (.ifCond .ne 13, 3) := by decide +kernel
theorem dX11_sell_10 : decode cX11_sell 10 = .ok (.new 63, 3) := by decide +kernel
theorem dX11_sell_13 : decode cX11_sell 13 = .ok (.dup, 1) := by decide +kernel
theorem dX11_sell_14 : decode cX11_sell 14 = .ok (.ldc 181, 2) := by decide +kernel
theorem dX11_sell_16 : decode cX11_sell 16 = .ok (.invokespecial 67, 3) := by decide +kernel
theorem dX11_sell_19 : decode cX11_sell 19 = .ok (.athrow, 1) := by decide +kernel
theorem dX11_sell_20 : decode cX11_sell 20 = .ok (.aload_n 0, 1) := by decide +kernel
theorem dX11_sell_21 : decode cX11_sell 21 = .ok (.invokevirtual 149, 3) := by decide +kernel
theorem dX11_sell_24 : decode cX11_sell 24 = .ok (.aload_n 0, 1) := by decide +kernel
theorem dX11_sell_25 : decode cX11_sell 25 = .ok (.getfield 37, 3) := by decide +kernel
theorem dX11_sell_28 : decode cX11_sell 28 = .ok (.invokevirtual 178, 3) := by decide +kernel
theorem dX11_sell_31 : decode cX11_sell 31 = .ok (.istore_n 1, 1) := by decide +kernel
theorem dX11_sell_32 : decode cX11_sell 32 = .ok (.iconst 0, 1) := by decide +kernel
theorem dX11_sell_33 : decode cX11_sell 33 = .ok (.istore_n 2, 1) := by decide +kernel
theorem dX11_sell_34 : decode cX11_sell 34 = .ok (.iload_n 2, 1) := by decide +kernel
theorem dX11_sell_35 : decode cX11_sell 35 = .ok (.aload_n 0, 1) := by decide +kernel
theorem dX11_sell_36 : decode cX11_sell 36 = .ok (.getfield 10, 3) := by decide +kernel
theorem dX11_sell_39 : decode cX11_sell 39 = .ok (.invokevirtual 89, 3) := by decide +kernel
theorem dX11_sell_42 : decode cX11_sell 42 = .ok (.if_icmp .ge 44, 3) := by decide +kernel
theorem dX11_sell_45 : decode cX11_sell 45 = .ok (.aload_n 0, 1) := by decide +kernel
theorem dX11_sell_46 : decode cX11_sell 46 = .ok (.getfield 44, 3) := by decide +kernel
theorem dX11_sell_49 : decode cX11_sell 49 = .ok (.aload_n 0, 1) := by decide +kernel
theorem dX11_sell_50 : decode cX11_sell 50 = .ok (.getfield 10, 3) := by decide +kernel
theorem dX11_sell_53 : decode cX11_sell 53 = .ok (.iload_n 2, 1) := by decide +kernel
theorem dX11_sell_54 : decode cX11_sell 54 = .ok (.invokevirtual 183, 3) := by decide +kernel
theorem dX11_sell_57 : decode cX11_sell 57 = .ok (.aload_n 0, 1) := by decide +kernel
theorem dX11_sell_58 : decode cX11_sell 58 = .ok (.getfield 95, 3) := by decide +kernel
theorem dX11_sell_61 : decode cX11_sell 61 = .ok (.aload_n 0, 1) := by decide +kernel
theorem dX11_sell_62 : decode cX11_sell 62 = .ok (.getfield 10, 3) := by decide +kernel
theorem dX11_sell_65 : decode cX11_sell 65 = .ok (.iload_n 2, 1) := by decide +kernel
theorem dX11_sell_66 : decode cX11_sell 66 = .ok (.invokevirtual 186, 3) := by decide +kernel
theorem dX11_sell_69 : decode cX11_sell 69 = .ok (.aload_n 0, 1) := by decide +kernel
theorem dX11_sell_70 : decode cX11_sell 70 = .ok (.getfield 37, 3) := by decide +kernel
theorem dX11_sell_73 : decode cX11_sell 73 = .ok (.iload_n 2, 1) := by decide +kernel
theorem dX11_sell_74 : decode cX11_sell 74 = .ok (.invokevirtual 175, 3) := by decide +kernel
theorem dX11_sell_77 : decode cX11_sell 77 = .ok (.invokevirtual 189, 3) := by decide +kernel
theorem dX11_sell_80 : decode cX11_sell 80 = .ok (.iinc 2 1, 3) := by decide +kernel
theorem dX11_sell_83 : decode cX11_sell 83 = .ok (.goto (-49), 3) := by decide +kernel
theorem dX11_sell_86 : decode cX11_sell 86 = .ok (.iconst 0, 1) := by decide +kernel
theorem dX11_sell_87 : decode cX11_sell 87 = .ok (.istore_n 2, 1) := by decide +kernel
theorem dX11_sell_88 : decode cX11_sell 88 = .ok (.iload_n 2, 1) := by decide +kernel
theorem dX11_sell_89 : decode cX11_sell 89 = .ok (.aload_n 0, 1) := by decide +kernel
theorem dX11_sell_90 : decode cX11_sell 90 = .ok (.getfield 19, 3) := by decide +kernel
theorem dX11_sell_93 : decode cX11_sell 93 = .ok (.invokevirtual 148, 3) := by decide +kernel
theorem dX11_sell_96 : decode cX11_sell 96 = .ok (.if_icmp .ge 39, 3) := by decide +kernel
theorem dX11_sell_99 : decode cX11_sell 99 = .ok (.aload_n 0, 1) := by decide +kernel
theorem dX11_sell_100 : decode cX11_sell 100 = .ok (.getfield 28, 3) := by decide +kernel
theorem dX11_sell_103 : decode cX11_sell 103 = .ok (.iload_n 2, 1) := by decide +kernel
theorem dX11_sell_104 : decode cX11_sell 104 = .ok (.invokevirtual 166, 3) := by decide +kernel
theorem dX11_sell_107 : decode cX11_sell 107 = .ok (.istore_n 3, 1) := by decide +kernel
theorem dX11_sell_108 : decode cX11_sell 108 = .ok (.aload_n 0, 1) := by decide +kernel
theorem dX11_sell_109 : decode cX11_sell 109 = .ok (.getfield 19, 3) := by decide +kernel
theorem dX11_sell_112 : decode cX11_sell 112 = .ok (.aload_n 0, 1) := by decide +kernel
theorem dX11_sell_113 : decode cX11_sell 113 = .ok (.getfield 95, 3) := by decide +kernel
theorem dX11_sell_116 : decode cX11_sell 116 = .ok (.iload_n 2, 1) := by decide +kernel
theorem dX11_sell_117 : decode cX11_sell 117 = .ok (.iload_n 3, 1) := by decide +kernel
theorem dX11_sell_118 : decode cX11_sell 118 = .ok (.invokevirtual 192, 3) := by decide +kernel
theorem dX11_sell_121 : decode cX11_sell 121 = .ok (.aload_n 0, 1) := by decide +kernel
theorem dX11_sell_122 : decode cX11_sell 122 = .ok (.getfield 44, 3) := by decide +kernel
theorem dX11_sell_125 : decode cX11_sell 125 = .ok (.iload_n 3, 1) := by decide +kernel
theorem dX11_sell_126 : decode cX11_sell 126 = .ok (.invokevirtual 196, 3) := by decide +kernel
theorem dX11_sell_129 : decode cX11_sell 129 = .ok (.iinc 2 1, 3) := by decide +kernel
theorem dX11_sell_132 : decode cX11_sell 132 = .ok (.goto (-44), 3) := by decide +kernel
theorem dX11_sell_135 : decode cX11_sell 135 = .ok (.aload_n 0, 1) := by decide +kernel
theorem dX11_sell_136 : decode cX11_sell 136 = .ok (.getfield 10, 3) := by decide +kernel
theorem dX11_sell_139 : decode cX11_sell 139 = .ok (.invokevirtual 198, 3) := by decide +kernel
theorem dX11_sell_142 : decode cX11_sell 142 = .ok (.aload_n 0, 1) := by decide +kernel
theorem dX11_sell_143 : decode cX11_sell 143 = .ok (.iconst 0, 1) := by decide +kernel
theorem dX11_sell_144 : decode cX11_sell 144 = .ok (.putfield 68, 3) := by decide +kernel
theorem dX11_sell_147 : decode cX11_sell 147 = .ok (.iload_n 1, 1) := by decide +kernel
theorem dX11_sell_148 : decode cX11_sell 148 = .ok (.ireturn, 1) := by decide +kernel
set_option maxRecDepth 20000 in
theorem ggX11_giveBack_X4_wasSold : GoodIn wsX11_giveBack wsX4_wasSold := goodIn_ca (goodIn_r _ [10, 11, 33, 34, 35, 36, 37, 38, 39, 40, 41] (by decide +kernel) (by decide +kernel)) (goodIn_sub (fun _ h => List.mem_cons_of_mem _ (List.mem_append_right _ h)) (by decide +kernel))
set_option maxRecDepth 20000 in
theorem gX11_giveBack_X4_wasSold : GoodIn wsX11_giveBack (wsV RX11 201 RX4 yX4_wasSold wsX4_wasSold) := goodIn_app (goodIn_of _ (by decide +kernel)) ggX11_giveBack_X4_wasSold
set_option maxRecDepth 20000 in
theorem ggX11_giveBack_X4_wasGivenBack : GoodIn wsX11_giveBack wsX4_wasGivenBack := goodIn_ca (goodIn_r _ [15, 16, 33, 34, 35, 36, 37, 38, 39, 40, 41] (by decide +kernel) (by decide +kernel)) (goodIn_sub (fun _ h => List.mem_cons_of_mem _ (List.mem_append_right _ h)) (by decide +kernel))
set_option maxRecDepth 20000 in
theorem gX11_giveBack_X4_wasGivenBack : GoodIn wsX11_giveBack (wsV RX11 206 RX4 yX4_wasGivenBack wsX4_wasGivenBack) := goodIn_app (goodIn_of _ (by decide +kernel)) ggX11_giveBack_X4_wasGivenBack
set_option maxRecDepth 20000 in
theorem ggX11_giveBack_X4_enterReturn : GoodIn wsX11_giveBack wsX4_enterReturn := goodIn_ca (goodIn_r _ [20, 16, 21, 22, 23, 24, 25, 33, 34, 35, 36, 37, 38, 39, 40, 41] (by decide +kernel) (by decide +kernel)) (goodIn_sub (fun _ h => List.mem_cons_of_mem _ (List.mem_append_right _ h)) (by decide +kernel))
set_option maxRecDepth 20000 in
theorem gX11_giveBack_X4_enterReturn : GoodIn wsX11_giveBack (wsV RX11 211 RX4 yX4_enterReturn wsX4_enterReturn) := goodIn_app (goodIn_of _ (by decide +kernel)) ggX11_giveBack_X4_enterReturn
theorem dX11_giveBack_0 : decode cX11_giveBack 0 = .ok (.aload_n 0, 1) := by decide +kernel
theorem dX11_giveBack_1 : decode cX11_giveBack 1 = .ok (.getfield 44, 3) := by decide +kernel
theorem dX11_giveBack_4 : decode cX11_giveBack 4 = .ok (.iload_n 1, 1) := by decide +kernel
theorem dX11_giveBack_5 : decode cX11_giveBack 5 = .ok (.invokevirtual 201, 3) := by decide +kernel
theorem dX11_giveBack_8 : decode cX11_giveBack 8 = .ok (.ifCond .ne 13, 3) := by decide +kernel
theorem dX11_giveBack_11 : decode cX11_giveBack 11 = .ok (.new 80, 3) := by decide +kernel
theorem dX11_giveBack_14 : decode cX11_giveBack 14 = .ok (.dup, 1) := by decide +kernel
theorem dX11_giveBack_15 : decode cX11_giveBack 15 = .ok (.ldc 204, 2) := by decide +kernel
theorem dX11_giveBack_17 : decode cX11_giveBack 17 = .ok (.invokespecial 84, 3) := by decide +kernel
theorem dX11_giveBack_20 : decode cX11_giveBack 20 = .ok (.athrow, 1) := by decide +kernel
theorem dX11_giveBack_21 : decode cX11_giveBack 21 = .ok (.aload_n 0, 1) := by decide +kernel
theorem dX11_giveBack_22 : decode cX11_giveBack 22 = .ok (.getfield 44, 3) := by decide +kernel
theorem dX11_giveBack_25 : decode cX11_giveBack 25 = .ok (.iload_n 1, 1) := by decide +kernel
theorem dX11_giveBack_26 : decode cX11_giveBack 26 = .ok (.invokevirtual 206, 3) := by decide +kernel
theorem dX11_giveBack_29 : decode cX11_giveBack 29 = .ok (.ifCond .eq 13, 3) := by decide +kernel
theorem dX11_giveBack_32 : decode cX11_giveBack 32 = .ok (.new 63, 3) := by decide +kernel
theorem dX11_giveBack_35 : decode cX11_giveBack 35 = .ok (.dup, 1) := by decide +kernel
theorem dX11_giveBack_36 : decode cX11_giveBack 36 = .ok (.ldc 209, 2) := by decide +kernel
theorem dX11_giveBack_38 : decode cX11_giveBack 38 = .ok (.invokespecial 67, 3) := by decide +kernel
theorem dX11_giveBack_41 : decode cX11_giveBack 41 = .ok (.athrow, 1) := by decide +kernel
theorem dX11_giveBack_42 : decode cX11_giveBack 42 = .ok (.aload_n 0, 1) := by decide +kernel
theorem dX11_giveBack_43 : decode cX11_giveBack 43 = .ok (.getfield 44, 3) := by decide +kernel
theorem dX11_giveBack_46 : decode cX11_giveBack 46 = .ok (.iload_n 1, 1) := by decide +kernel
theorem dX11_giveBack_47 : decode cX11_giveBack 47 = .ok (.invokevirtual 211, 3) := by decide +kernel
theorem dX11_giveBack_50 : decode cX11_giveBack 50 = .ok (.ireturn, 1) := by decide +kernel
set_option maxRecDepth 20000 in
theorem ggX11_soldTo_X4_wasSold : GoodIn wsX11_soldTo wsX4_wasSold := goodIn_ca (goodIn_r _ [8, 9, 25, 26, 27, 28, 29, 30, 31, 32, 33] (by decide +kernel) (by decide +kernel)) (goodIn_sub (fun _ h => List.mem_cons_of_mem _ (List.mem_append_right _ h)) (by decide +kernel))
set_option maxRecDepth 20000 in
theorem gX11_soldTo_X4_wasSold : GoodIn wsX11_soldTo (wsV RX11 201 RX4 yX4_wasSold wsX4_wasSold) := goodIn_app (goodIn_of _ (by decide +kernel)) ggX11_soldTo_X4_wasSold
set_option maxRecDepth 20000 in
theorem ggX11_soldTo_X4_buyerOf : GoodIn wsX11_soldTo wsX4_buyerOf := goodIn_ca (goodIn_r _ [13, 14, 15, 16, 17, 25, 26, 27, 28, 29, 30, 31, 32, 33] (by decide +kernel) (by decide +kernel)) (goodIn_sub (fun _ h => List.mem_cons_of_mem _ (List.mem_append_right _ h)) (by decide +kernel))
set_option maxRecDepth 20000 in
theorem gX11_soldTo_X4_buyerOf : GoodIn wsX11_soldTo (wsV RX11 214 RX4 yX4_buyerOf wsX4_buyerOf) := goodIn_app (goodIn_of _ (by decide +kernel)) ggX11_soldTo_X4_buyerOf
theorem dX11_soldTo_0 : decode cX11_soldTo 0 = .ok (.aload_n 0, 1) := by decide +kernel
theorem dX11_soldTo_1 : decode cX11_soldTo 1 = .ok (.getfield 44, 3) := by decide +kernel
theorem dX11_soldTo_4 : decode cX11_soldTo 4 = .ok (.iload_n 1, 1) := by decide +kernel
theorem dX11_soldTo_5 : decode cX11_soldTo 5 = .ok (.invokevirtual 201, 3) := by decide +kernel
theorem dX11_soldTo_8 : decode cX11_soldTo 8 = .ok (.ifCond .ne 13, 3) := by decide +kernel
theorem dX11_soldTo_11 : decode cX11_soldTo 11 = .ok (.new 80, 3) := by decide +kernel
theorem dX11_soldTo_14 : decode cX11_soldTo 14 = .ok (.dup, 1) := by decide +kernel
theorem dX11_soldTo_15 : decode cX11_soldTo 15 = .ok (.ldc 204, 2) := by decide +kernel
theorem dX11_soldTo_17 : decode cX11_soldTo 17 = .ok (.invokespecial 84, 3) := by decide +kernel
theorem dX11_soldTo_20 : decode cX11_soldTo 20 = .ok (.athrow, 1) := by decide +kernel
theorem dX11_soldTo_21 : decode cX11_soldTo 21 = .ok (.aload_n 0, 1) := by decide +kernel
theorem dX11_soldTo_22 : decode cX11_soldTo 22 = .ok (.getfield 44, 3) := by decide +kernel
theorem dX11_soldTo_25 : decode cX11_soldTo 25 = .ok (.iload_n 1, 1) := by decide +kernel
theorem dX11_soldTo_26 : decode cX11_soldTo 26 = .ok (.invokevirtual 214, 3) := by decide +kernel
theorem dX11_soldTo_29 : decode cX11_soldTo 29 = .ok (.ireturn, 1) := by decide +kernel
set_option maxRecDepth 20000 in
theorem ggX11_usesInAll_X4_usesCounted : GoodIn wsX11_usesInAll wsX4_usesCounted := goodIn_r _ [6, 7, 15, 16, 17, 18, 19, 20, 21, 22, 23] (by decide +kernel) (by decide +kernel)
set_option maxRecDepth 20000 in
theorem gX11_usesInAll_X4_usesCounted : GoodIn wsX11_usesInAll (wsV RX11 217 RX4 yX4_usesCounted wsX4_usesCounted) := goodIn_app (goodIn_of _ (by decide +kernel)) ggX11_usesInAll_X4_usesCounted
theorem dX11_usesInAll_0 : decode cX11_usesInAll 0 = .ok (.aload_n 0, 1) := by decide +kernel
theorem dX11_usesInAll_1 : decode cX11_usesInAll 1 = .ok (.getfield 44, 3) := by decide +kernel
theorem dX11_usesInAll_4 : decode cX11_usesInAll 4 = .ok (.invokevirtual 217, 3) := by decide +kernel
theorem dX11_usesInAll_7 : decode cX11_usesInAll 7 = .ok (.ireturn, 1) := by decide +kernel
set_option maxRecDepth 20000 in
theorem ggX11_turnover_X4_kept : GoodIn wsX11_turnover wsX4_kept := goodIn_r _ [6, 7, 8, 16, 17, 18, 19, 20, 21, 22, 23, 24] (by decide +kernel) (by decide +kernel)
set_option maxRecDepth 20000 in
theorem gX11_turnover_X4_kept : GoodIn wsX11_turnover (wsV RX11 220 RX4 yX4_kept wsX4_kept) := goodIn_app (goodIn_of _ (by decide +kernel)) ggX11_turnover_X4_kept
theorem dX11_turnover_0 : decode cX11_turnover 0 = .ok (.aload_n 0, 1) := by decide +kernel
theorem dX11_turnover_1 : decode cX11_turnover 1 = .ok (.getfield 44, 3) := by decide +kernel
theorem dX11_turnover_4 : decode cX11_turnover 4 = .ok (.invokevirtual 220, 3) := by decide +kernel
theorem dX11_turnover_7 : decode cX11_turnover 7 = .ok (.lreturn, 1) := by decide +kernel
set_option maxRecDepth 20000 in
theorem ggX11_discountShare_X4_pricesSold : GoodIn wsX11_discountShare wsX4_pricesSold := goodIn_r _ [8, 9, 22, 23, 24, 25, 26, 27, 28, 29, 30] (by decide +kernel) (by decide +kernel)
set_option maxRecDepth 20000 in
theorem gX11_discountShare_X4_pricesSold : GoodIn wsX11_discountShare (wsV RX11 224 RX4 yX4_pricesSold wsX4_pricesSold) := goodIn_app (goodIn_of _ (by decide +kernel)) ggX11_discountShare_X4_pricesSold
set_option maxRecDepth 20000 in
theorem ggX11_discountShare_X4_netsSold : GoodIn wsX11_discountShare wsX4_netsSold := goodIn_r _ [13, 14, 22, 23, 24, 25, 26, 27, 28, 29, 30] (by decide +kernel) (by decide +kernel)
set_option maxRecDepth 20000 in
theorem gX11_discountShare_X4_netsSold : GoodIn wsX11_discountShare (wsV RX11 232 RX4 yX4_netsSold wsX4_netsSold) := goodIn_app (goodIn_of _ (by decide +kernel)) ggX11_discountShare_X4_netsSold
theorem dX11_discountShare_0 : decode cX11_discountShare 0 = .ok (.aload_n 0, 1) := by decide +kernel
theorem dX11_discountShare_1 : decode cX11_discountShare 1 = .ok (.getfield 44, 3) := by decide +kernel
theorem dX11_discountShare_4 : decode cX11_discountShare 4 = .ok (.invokevirtual 224, 3) := by decide +kernel
theorem dX11_discountShare_7 : decode cX11_discountShare 7 = .ok (.istore_n 1, 1) := by decide +kernel
theorem dX11_discountShare_8 : decode cX11_discountShare 8 = .ok (.iload_n 1, 1) := by decide +kernel
theorem dX11_discountShare_9 : decode cX11_discountShare 9 = .ok (.ifCond .gt 13, 3) := by decide +kernel
theorem dX11_discountShare_12 : decode cX11_discountShare 12 = .ok (.new 227, 3) := by decide +kernel
theorem dX11_discountShare_15 : decode cX11_discountShare 15 = .ok (.dup, 1) := by decide +kernel
theorem dX11_discountShare_16 : decode cX11_discountShare 16 = .ok (.ldc 229, 2) := by decide +kernel
theorem dX11_discountShare_18 : decode cX11_discountShare 18 = .ok (.invokespecial 231, 3) := by decide +kernel
theorem dX11_discountShare_21 : decode cX11_discountShare 21 = .ok (.athrow, 1) := by decide +kernel
theorem dX11_discountShare_22 : decode cX11_discountShare 22 = .ok (.iload_n 1, 1) := by decide +kernel
theorem dX11_discountShare_23 : decode cX11_discountShare 23 = .ok (.aload_n 0, 1) := by decide +kernel
theorem dX11_discountShare_24 : decode cX11_discountShare 24 = .ok (.getfield 44, 3) := by decide +kernel
theorem dX11_discountShare_27 : decode cX11_discountShare 27 = .ok (.invokevirtual 232, 3) := by decide +kernel
theorem dX11_discountShare_30 : decode cX11_discountShare 30 = .ok (.isub, 1) := by decide +kernel
theorem dX11_discountShare_31 : decode cX11_discountShare 31 = .ok (.i2f, 1) := by decide +kernel
theorem dX11_discountShare_32 : decode cX11_discountShare 32 = .ok (.iload_n 1, 1) := by decide +kernel
theorem dX11_discountShare_33 : decode cX11_discountShare 33 = .ok (.i2f, 1) := by decide +kernel
theorem dX11_discountShare_34 : decode cX11_discountShare 34 = .ok (.fdiv, 1) := by decide +kernel
theorem dX11_discountShare_35 : decode cX11_discountShare 35 = .ok (.freturn, 1) := by decide +kernel
set_option maxRecDepth 20000 in
theorem ggX11_meanNetPrice_X4_itemsSold : GoodIn wsX11_meanNetPrice wsX4_itemsSold := goodIn_r _ [8, 9, 22, 23, 24, 25, 26, 27, 28, 29, 30] (by decide +kernel) (by decide +kernel)
set_option maxRecDepth 20000 in
theorem gX11_meanNetPrice_X4_itemsSold : GoodIn wsX11_meanNetPrice (wsV RX11 235 RX4 yX4_itemsSold wsX4_itemsSold) := goodIn_app (goodIn_of _ (by decide +kernel)) ggX11_meanNetPrice_X4_itemsSold
set_option maxRecDepth 20000 in
theorem ggX11_meanNetPrice_X4_netsSold : GoodIn wsX11_meanNetPrice wsX4_netsSold := goodIn_r _ [13, 14, 22, 23, 24, 25, 26, 27, 28, 29, 30] (by decide +kernel) (by decide +kernel)
set_option maxRecDepth 20000 in
theorem gX11_meanNetPrice_X4_netsSold : GoodIn wsX11_meanNetPrice (wsV RX11 232 RX4 yX4_netsSold wsX4_netsSold) := goodIn_app (goodIn_of _ (by decide +kernel)) ggX11_meanNetPrice_X4_netsSold
theorem dX11_meanNetPrice_0 : decode cX11_meanNetPrice 0 = .ok (.aload_n 0, 1) := by decide +kernel
theorem dX11_meanNetPrice_1 : decode cX11_meanNetPrice 1 = .ok (.getfield 44, 3) := by decide +kernel
theorem dX11_meanNetPrice_4 : decode cX11_meanNetPrice 4 = .ok (.invokevirtual 235, 3) := by decide +kernel
theorem dX11_meanNetPrice_7 : decode cX11_meanNetPrice 7 = .ok (.istore_n 1, 1) := by decide +kernel
theorem dX11_meanNetPrice_8 : decode cX11_meanNetPrice 8 = .ok (.iload_n 1, 1) := by decide +kernel
theorem dX11_meanNetPrice_9 : decode cX11_meanNetPrice 9 = .ok (.ifCond .gt 13, 3) := by decide +kernel
theorem dX11_meanNetPrice_12 : decode cX11_meanNetPrice 12 = .ok (.new 227, 3) := by decide +kernel
theorem dX11_meanNetPrice_15 : decode cX11_meanNetPrice 15 = .ok (.dup, 1) := by decide +kernel
theorem dX11_meanNetPrice_16 : decode cX11_meanNetPrice 16 = .ok (.ldc 229, 2) := by decide +kernel
theorem dX11_meanNetPrice_18 : decode cX11_meanNetPrice 18 = .ok (.invokespecial 231, 3) := by decide +kernel
theorem dX11_meanNetPrice_21 : decode cX11_meanNetPrice 21 = .ok (.athrow, 1) := by decide +kernel
theorem dX11_meanNetPrice_22 : decode cX11_meanNetPrice 22 = .ok (.aload_n 0, 1) := by decide +kernel
theorem dX11_meanNetPrice_23 : decode cX11_meanNetPrice 23 = .ok (.getfield 44, 3) := by decide +kernel
theorem dX11_meanNetPrice_26 : decode cX11_meanNetPrice 26 = .ok (.invokevirtual 232, 3) := by decide +kernel
theorem dX11_meanNetPrice_29 : decode cX11_meanNetPrice 29 = .ok (.i2d, 1) := by decide +kernel
theorem dX11_meanNetPrice_30 : decode cX11_meanNetPrice 30 = .ok (.iload_n 1, 1) := by decide +kernel
theorem dX11_meanNetPrice_31 : decode cX11_meanNetPrice 31 = .ok (.i2d, 1) := by decide +kernel
theorem dX11_meanNetPrice_32 : decode cX11_meanNetPrice 32 = .ok (.ddiv, 1) := by decide +kernel
theorem dX11_meanNetPrice_33 : decode cX11_meanNetPrice 33 = .ok (.dreturn, 1) := by decide +kernel
set_option maxRecDepth 20000 in
theorem ggX11_enter_X6_append : GoodIn wsX11_enter wsX6_append := goodIn_ca (goodIn_r _ [7, 8, 9, 10, 11, 12, 13, 14, 15, 16, 17, 18, 19, 20, 21, 22, 23, 24, 25, 26, 27, 28, 29, 30, 31, 32, 33, 34, 35, 36, 37, 38, 39, 40, 41, 42, 43, 44, 45, 46, 47, 48, 49, 50, 51, 52, 60, 61, 62, 63, 64, 65, 66, 67, 68, 69, 70, 71, 72, 73, 74, 75, 76, 77, 78, 79, 80, 81, 82, 83, 84, 85, 86] (by decide +kernel) (by decide +kernel)) (goodIn_sub (fun _ h => List.mem_cons_of_mem _ (List.mem_append_right _ h)) (by decide +kernel))
set_option maxRecDepth 20000 in
theorem gX11_enter_X6_append : GoodIn wsX11_enter (wsV RX11 238 RX6 yX6_append wsX6_append) := goodIn_app (goodIn_of _ (by decide +kernel)) ggX11_enter_X6_append
theorem dX11_enter_0 : decode cX11_enter 0 = .ok (.aload_n 0, 1) := by decide +kernel
theorem dX11_enter_1 : decode cX11_enter 1 = .ok (.iconst 0, 1) := by decide +kernel
theorem dX11_enter_2 : decode cX11_enter 2 = .ok (.putfield 68, 3) := by decide +kernel
theorem dX11_enter_5 : decode cX11_enter 5 = .ok (.aload_n 0, 1) := by decide +kernel
theorem dX11_enter_6 : decode cX11_enter 6 = .ok (.getfield 19, 3) := by decide +kernel
theorem dX11_enter_9 : decode cX11_enter 9 = .ok (.aload_n 1, 1) := by decide +kernel
theorem dX11_enter_10 : decode cX11_enter 10 = .ok (.invokevirtual 238, 3) := by decide +kernel
theorem dX11_enter_13 : decode cX11_enter 13 = .ok (.ireturn, 1) := by decide +kernel
set_option maxRecDepth 20000 in
theorem ggX11_findBest_X8_run : GoodIn wsX11_findBest wsX8_run := goodIn_ca (goodIn_ca (goodIn_r _ [9, 10, 11, 12, 13, 14, 15, 16, 17, 18, 19, 20, 21, 22, 23, 24, 25, 26, 27, 28, 29, 30, 31, 32, 33, 34, 35, 36, 37, 38, 39, 40, 41, 42, 43, 44, 45, 46, 47, 48, 49, 50, 51, 52, 53, 54, 55, 56, 57, 58, 59, 60, 61, 62, 63, 64, 65, 66, 67, 68, 69, 70, 71, 72, 73, 74, 75, 76, 77, 78, 79, 80, 81, 82, 83, 84, 85, 86, 87, 88, 89, 90, 91, 92, 93, 94, 95, 96, 97, 98, 99, 100, 101, 102, 103, 104, 105, 106, 107, 108, 109, 110, 111, 112, 113, 114, 115, 116, 117, 118, 119, 120, 121, 122, 123, 124, 125, 126, 127, 128, 129, 130, 131, 132, 133, 134, 135, 136, 137, 138, 139, 140, 141, 142, 143, 144, 145, 146, 147, 148, 149, 150, 151, 152, 153, 154, 155, 156, 157, 158, 8, 159, 160, 161, 162, 163, 164, 165, 166, 167, 168, 169, 170, 171, 172, 173, 174, 175, 176, 177, 178, 179, 180, 181, 182, 183, 184, 185, 186, 187, 188, 189, 190, 191, 192, 193, 194, 195, 196, 197, 198, 199, 200, 201, 202, 203, 204, 205, 206, 207, 208, 209, 210, 211, 212, 213, 214, 215, 216, 217, 218, 219, 220, 221, 222, 223, 224, 225, 226, 227, 228, 229, 230, 231, 232, 233, 234, 235, 236, 237, 238, 239, 289, 290, 291, 292, 293, 294, 295, 296, 297, 298, 299, 300, 301, 302, 303, 304, 305, 306, 307, 308, 309, 310, 311, 312, 313, 314, 315, 316, 317, 318, 319, 320, 321, 322, 323, 324, 325, 326, 327, 328, 329, 330, 331, 332, 333, 334, 335, 336, 337] (by decide +kernel) (by decide +kernel)) (goodIn_sub (fun _ h => List.mem_cons_of_mem _ (List.mem_append_left _ (List.mem_append_right _ h))) (by decide +kernel))) (goodIn_sub (fun _ h => List.mem_cons_of_mem _ (List.mem_append_right _ h)) (by decide +kernel))
set_option maxRecDepth 20000 in
theorem gX11_findBest_X8_run : GoodIn wsX11_findBest (wsV RX11 240 RX8 yX8_run wsX8_run) := goodIn_app (goodIn_of _ (by decide +kernel)) ggX11_findBest_X8_run
set_option maxRecDepth 20000 in
theorem ggX11_findBest_X1_write : GoodIn wsX11_findBest wsX1_write := goodIn_ca (goodIn_ca (goodIn_r _ [244, 245, 246, 247, 248, 249, 250, 27, 251, 122, 59, 31, 60, 30, 32, 252, 25, 26, 28, 29, 253, 254, 255, 8, 256, 223, 257, 258, 259, 260, 261, 262, 10, 183, 184, 185, 20, 186, 152, 263, 264, 265, 266, 178, 179, 180, 181, 151, 267, 268, 269, 243, 270, 271, 134, 135, 136, 272, 273, 274, 275, 276, 116, 117, 277, 278, 279, 280, 222, 210, 211, 212, 213, 12, 161, 162, 163, 36, 164, 165, 281, 69, 70, 71, 66, 67, 338, 339, 340, 341, 306, 307, 308, 309, 310, 289, 290, 291, 292, 293, 294, 295, 296, 297, 298, 299, 300, 301, 302, 303, 304, 305, 311, 312, 313, 314, 315, 316] (by decide +kernel) (by decide +kernel)) (goodIn_sub (fun _ h => List.mem_cons_of_mem _ (List.mem_append_left _ (List.mem_append_right _ h))) (by decide +kernel))) (goodIn_sub (fun _ h => List.mem_cons_of_mem _ (List.mem_append_right _ h)) (by decide +kernel))
set_option maxRecDepth 20000 in
theorem gX11_findBest_X1_write : GoodIn wsX11_findBest (wsV RX11 243 RX1 yX1_write wsX1_write) := goodIn_app (goodIn_of _ (by decide +kernel)) ggX11_findBest_X1_write
theorem dX11_findBest_0 : decode cX11_findBest 0 = .ok (.aload_n 0, 1) := by decide +kernel
theorem dX11_findBest_1 : decode cX11_findBest 1 = .ok (.getfield 68, 3) := by decide +kernel
theorem dX11_findBest_4 : decode cX11_findBest 4 = .ok (.ifCond .eq 4, 3) := by decide +kernel
theorem dX11_findBest_7 : decode cX11_findBest 7 = .ok (.return_, 1) := by decide +kernel
theorem dX11_findBest_8 : decode cX11_findBest 8 = .ok (.aload_n 0, 1) := by decide +kernel
theorem dX11_findBest_9 : decode cX11_findBest 9 = .ok (.getfield 28, 3) := by decide +kernel
theorem dX11_findBest_12 : decode cX11_findBest 12 = .ok (.aload_n 0, 1) := by decide +kernel
theorem dX11_findBest_13 : decode cX11_findBest 13 = .ok (.getfield 95, 3) := by decide +kernel
theorem dX11_findBest_16 : decode cX11_findBest 16 = .ok (.invokevirtual 240, 3) := by decide +kernel
theorem dX11_findBest_19 : decode cX11_findBest 19 = .ok (.aload_n 0, 1) := by decide +kernel
theorem dX11_findBest_20 : decode cX11_findBest 20 = .ok (.getfield 37, 3) := by decide +kernel
theorem dX11_findBest_23 : decode cX11_findBest 23 = .ok (.invokevirtual 243, 3) := by decide +kernel
theorem dX11_findBest_26 : decode cX11_findBest 26 = .ok (.aload_n 0, 1) := by decide +kernel
theorem dX11_findBest_27 : decode cX11_findBest 27 = .ok (.iconst 1, 1) := by decide +kernel
theorem dX11_findBest_28 : decode cX11_findBest 28 = .ok (.putfield 68, 3) := by decide +kernel
theorem dX11_findBest_31 : decode cX11_findBest 31 = .ok (.return_, 1) := by decide +kernel
set_option maxRecDepth 20000 in
theorem ggX11_areTerms_X11_isWithin : GoodIn wsX11_areTerms wsX11_isWithin := goodIn_r _ [4] (by decide +kernel) (by decide +kernel)
set_option maxRecDepth 20000 in
theorem gX11_areTerms_X11_isWithin : GoodIn wsX11_areTerms (va_wsS RX11 48 yX11_isWithin wsX11_isWithin) := goodIn_app (goodIn_of _ (by decide +kernel)) ggX11_areTerms_X11_isWithin
theorem dX11_areTerms_0 : decode cX11_areTerms 0 = .ok (.iload_n 0, 1) := by decide +kernel
theorem dX11_areTerms_1 : decode cX11_areTerms 1 = .ok (.iconst 1, 1) := by decide +kernel
theorem dX11_areTerms_2 : decode cX11_areTerms 2 = .ok (.bipush 9, 2) := by decide +kernel
theorem dX11_areTerms_4 : decode cX11_areTerms 4 = .ok (.invokestatic 48, 3) := by decide +kernel
theorem dX11_areTerms_7 : decode cX11_areTerms 7 = .ok (.ifCond .eq 16, 3) := by decide +kernel
theorem dX11_areTerms_10 : decode cX11_areTerms 10 = .ok (.iload_n 1, 1) := by decide +kernel
theorem dX11_areTerms_11 : decode cX11_areTerms 11 = .ok (.iconst (-1), 1) := by decide +kernel
theorem dX11_areTerms_12 : decode cX11_areTerms 12 = .ok (.iconst 3, 1) := by decide +kernel
theorem dX11_areTerms_13 : decode cX11_areTerms 13 = .ok (.invokestatic 48, 3) := by decide +kernel
theorem dX11_areTerms_16 : decode cX11_areTerms 16 = .ok (.ifCond .eq 7, 3) := by decide +kernel
theorem dX11_areTerms_19 : decode cX11_areTerms 19 = .ok (.iconst 1, 1) := by decide +kernel
theorem dX11_areTerms_20 : decode cX11_areTerms 20 = .ok (.goto 4, 3) := by decide +kernel
theorem dX11_areTerms_23 : decode cX11_areTerms 23 = .ok (.iconst 0, 1) := by decide +kernel
theorem dX11_areTerms_24 : decode cX11_areTerms 24 = .ok (.ireturn, 1) := by decide +kernel
theorem dX11_isWithin_0 : decode cX11_isWithin 0 = .ok (.iload_n 0, 1) := by decide +kernel
theorem dX11_isWithin_1 : decode cX11_isWithin 1 = .ok (.iload_n 1, 1) := by decide +kernel
theorem dX11_isWithin_2 : decode cX11_isWithin 2 = .ok (.if_icmp .lt 12, 3) := by decide +kernel
theorem dX11_isWithin_5 : decode cX11_isWithin 5 = .ok (.iload_n 0, 1) := by decide +kernel
theorem dX11_isWithin_6 : decode cX11_isWithin 6 = .ok (.iload_n 2, 1) := by decide +kernel
theorem dX11_isWithin_7 : decode cX11_isWithin 7 = .ok (.if_icmp .gt 7, 3) := by decide +kernel
theorem dX11_isWithin_10 : decode cX11_isWithin 10 = .ok (.iconst 1, 1) := by decide +kernel
theorem dX11_isWithin_11 : decode cX11_isWithin 11 = .ok (.goto 4, 3) := by decide +kernel
theorem dX11_isWithin_14 : decode cX11_isWithin 14 = .ok (.iconst 0, 1) := by decide +kernel
theorem dX11_isWithin_15 : decode cX11_isWithin 15 = .ok (.ireturn, 1) := by decide +kernel
theorem dX11_at_0 : decode cX11_at 0 = .ok (.iload_n 1, 1) := by decide +kernel
theorem dX11_at_1 : decode cX11_at 1 = .ok (.ifCond .lt 15, 3) := by decide +kernel
theorem dX11_at_4 : decode cX11_at 4 = .ok (.iload_n 1, 1) := by decide +kernel
theorem dX11_at_5 : decode cX11_at 5 = .ok (.aload_n 0, 1) := by decide +kernel
theorem dX11_at_6 : decode cX11_at 6 = .ok (.arraylength, 1) := by decide +kernel
theorem dX11_at_7 : decode cX11_at 7 = .ok (.if_icmp .ge 9, 3) := by decide +kernel
theorem dX11_at_10 : decode cX11_at 10 = .ok (.aload_n 0, 1) := by decide +kernel
theorem dX11_at_11 : decode cX11_at 11 = .ok (.iload_n 1, 1) := by decide +kernel
theorem dX11_at_12 : decode cX11_at 12 = .ok (.iaload, 1) := by decide +kernel
theorem dX11_at_13 : decode cX11_at 13 = .ok (.goto 4, 3) := by decide +kernel
theorem dX11_at_16 : decode cX11_at 16 = .ok (.iconst 0, 1) := by decide +kernel
theorem dX11_at_17 : decode cX11_at 17 = .ok (.ireturn, 1) := by decide +kernel
theorem dX11_setAt_0 : decode cX11_setAt 0 = .ok (.iload_n 1, 1) := by decide +kernel
theorem dX11_setAt_1 : decode cX11_setAt 1 = .ok (.ifCond .lt 13, 3) := by decide +kernel
theorem dX11_setAt_4 : decode cX11_setAt 4 = .ok (.iload_n 1, 1) := by decide +kernel
theorem dX11_setAt_5 : decode cX11_setAt 5 = .ok (.aload_n 0, 1) := by decide +kernel
theorem dX11_setAt_6 : decode cX11_setAt 6 = .ok (.arraylength, 1) := by decide +kernel
theorem dX11_setAt_7 : decode cX11_setAt 7 = .ok (.if_icmp .ge 7, 3) := by decide +kernel
theorem dX11_setAt_10 : decode cX11_setAt 10 = .ok (.aload_n 0, 1) := by decide +kernel
theorem dX11_setAt_11 : decode cX11_setAt 11 = .ok (.iload_n 1, 1) := by decide +kernel
theorem dX11_setAt_12 : decode cX11_setAt 12 = .ok (.iload_n 2, 1) := by decide +kernel
theorem dX11_setAt_13 : decode cX11_setAt 13 = .ok (.iastore, 1) := by decide +kernel
theorem dX11_setAt_14 : decode cX11_setAt 14 = .ok (.return_, 1) := by decide +kernel
theorem dX11_bitOf_0 : decode cX11_bitOf 0 = .ok (.iconst 1, 1) := by decide +kernel
theorem dX11_bitOf_1 : decode cX11_bitOf 1 = .ok (.bipush 6, 2) := by decide +kernel
theorem dX11_bitOf_3 : decode cX11_bitOf 3 = .ok (.iload_n 0, 1) := by decide +kernel
theorem dX11_bitOf_4 : decode cX11_bitOf 4 = .ok (.isub, 1) := by decide +kernel
theorem dX11_bitOf_5 : decode cX11_bitOf 5 = .ok (.ishl, 1) := by decide +kernel
theorem dX11_bitOf_6 : decode cX11_bitOf 6 = .ok (.ireturn, 1) := by decide +kernel
theorem dX11_isIn_0 : decode cX11_isIn 0 = .ok (.iload_n 0, 1) := by decide +kernel
theorem dX11_isIn_1 : decode cX11_isIn 1 = .ok (.bipush 6, 2) := by decide +kernel
theorem dX11_isIn_3 : decode cX11_isIn 3 = .ok (.iload_n 1, 1) := by decide +kernel
theorem dX11_isIn_4 : decode cX11_isIn 4 = .ok (.isub, 1) := by decide +kernel
theorem dX11_isIn_5 : decode cX11_isIn 5 = .ok (.ishr, 1) := by decide +kernel
theorem dX11_isIn_6 : decode cX11_isIn 6 = .ok (.iconst 1, 1) := by decide +kernel
theorem dX11_isIn_7 : decode cX11_isIn 7 = .ok (.iand, 1) := by decide +kernel
theorem dX11_isIn_8 : decode cX11_isIn 8 = .ok (.ifCond .eq 7, 3) := by decide +kernel
theorem dX11_isIn_11 : decode cX11_isIn 11 = .ok (.iconst 1, 1) := by decide +kernel
theorem dX11_isIn_12 : decode cX11_isIn 12 = .ok (.goto 4, 3) := by decide +kernel
theorem dX11_isIn_15 : decode cX11_isIn 15 = .ok (.iconst 0, 1) := by decide +kernel
theorem dX11_isIn_16 : decode cX11_isIn 16 = .ok (.ireturn, 1) := by decide +kernel
