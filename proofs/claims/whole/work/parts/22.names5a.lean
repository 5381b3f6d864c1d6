set_option maxRecDepth 20000 in
theorem gX12_netPrice_X12_finds : GoodIn wsX12_netPrice (wsV RX12 211 RX12 yX12_finds wsX12_finds) := goodIn_app (goodIn_of _ (by decide +kernel)) ggX12_netPrice_X12_finds
theorem dX12_netPrice_0 : decode cX12_netPrice 0 = .ok (.aload_n 0, 1) := by decide +kernel
theorem dX12_netPrice_1 : decode cX12_netPrice 1 = .ok (.aload_n 0, 1) := by decide +kernel
theorem dX12_netPrice_2 : decode cX12_netPrice 2 = .ok (.iload_n 1, 1) := by decide +kernel
theorem dX12_netPrice_3 : decode cX12_netPrice 3 = .ok (.invokevirtual 110, 3) := by decide +kernel
theorem dX12_netPrice_6 : decode cX12_netPrice 6 = .ok (.ifCond .eq 7, 3) := by decide +kernel
theorem dX12_netPrice_9 : decode cX12_netPrice 9 = .ok (.iconst 0, 1) := by decide +kernel
theorem dX12_netPrice_10 : decode cX12_netPrice 10 = .ok (.goto 4, 3) := by decide +kernel
theorem dX12_netPrice_13 : decode cX12_netPrice 13 = .ok (.iconst 1, 1) := by decide +kernel
theorem dX12_netPrice_14 : decode cX12_netPrice 14 = .ok (.putfield 89, 3) := by decide +kernel
theorem dX12_netPrice_17 : decode cX12_netPrice 17 = .ok (.aload_n 0, 1) := by decide +kernel
theorem dX12_netPrice_18 : decode cX12_netPrice 18 = .ok (.getfield 89, 3) := by decide +kernel
theorem dX12_netPrice_21 : decode cX12_netPrice 21 = .ok (.ifCond .le 5, 3) := by decide +kernel
theorem dX12_netPrice_24 : decode cX12_netPrice 24 = .ok (.iconst 0, 1) := by decide +kernel
theorem dX12_netPrice_25 : decode cX12_netPrice 25 = .ok (.ireturn, 1) := by decide +kernel
theorem dX12_netPrice_26 : decode cX12_netPrice 26 = .ok (.aload_n 0, 1) := by decide +kernel
theorem dX12_netPrice_27 : decode cX12_netPrice 27 = .ok (.invokevirtual 211, 3) := by decide +kernel
theorem dX12_netPrice_30 : decode cX12_netPrice 30 = .ok (.aload_n 0, 1) := by decide +kernel
theorem dX12_netPrice_31 : decode cX12_netPrice 31 = .ok (.getfield 16, 3) := by decide +kernel
theorem dX12_netPrice_34 : decode cX12_netPrice 34 = .ok (.iload_n 1, 1) := by decide +kernel
theorem dX12_netPrice_35 : decode cX12_netPrice 35 = .ok (.iaload, 1) := by decide +kernel
theorem dX12_netPrice_36 : decode cX12_netPrice 36 = .ok (.ireturn, 1) := by decide +kernel
set_option maxRecDepth 20000 in
theorem ggX12_pays_X12_finds_p0 : GoodIn wsX12_pays [.code yX12_finds cX12_finds 3 none] := goodIn_r _ [8] (by decide +kernel) (by decide +kernel)
set_option maxRecDepth 20000 in
theorem ggX12_pays_X12_finds_p1 : GoodIn wsX12_pays wsX12_finds_r1 := goodIn_r _ [9, 10, 11, 12, 13, 14, 15, 16, 17, 7, 18, 1, 19, 3, 20, 21, 22, 23, 24, 25, 26, 27, 28, 29] (by decide +kernel) (by decide +kernel)
set_option maxRecDepth 20000 in
theorem ggX12_pays_X12_finds_p2 : GoodIn wsX12_pays wsX12_finds_r2 := goodIn_r _ [30, 31, 32, 33, 34, 35, 36, 37, 38, 39, 40, 41, 42, 43, 44, 45, 46, 47, 48, 49, 50, 51, 52, 53] (by decide +kernel) (by decide +kernel)
set_option maxRecDepth 20000 in
theorem ggX12_pays_X12_finds_p3 : GoodIn wsX12_pays wsX12_finds_r3 := goodIn_r _ [54, 55, 56, 57, 58, 59, 60, 61, 62, 63, 64, 65, 66, 67, 68, 69, 70, 71, 72, 73, 74, 75, 76, 77] (by decide +kernel) (by decide +kernel)
set_option maxRecDepth 20000 in
theorem ggX12_pays_X12_finds_p4 : GoodIn wsX12_pays wsX12_finds_r4 := goodIn_r _ [78, 79, 80, 81, 82, 83, 84, 85, 86, 87, 88, 89, 90, 91, 92, 93, 94, 95, 96, 97, 98, 99, 100, 101] (by decide +kernel) (by decide +kernel)
set_option maxRecDepth 20000 in
theorem ggX12_pays_X12_finds_p5 : GoodIn wsX12_pays wsX12_finds_r5 := goodIn_r _ [102, 103, 104, 105, 106, 107, 108, 109, 110, 111, 112, 113, 114, 115, 116, 117, 118, 119, 120, 121, 122, 123, 124, 125] (by decide +kernel) (by decide +kernel)
set_option maxRecDepth 20000 in
theorem ggX12_pays_X12_finds_p6 : GoodIn wsX12_pays wsX12_finds_r6 := goodIn_r _ [126, 127, 128, 2] (by decide +kernel) (by decide +kernel)
set_option maxRecDepth 20000 in
theorem ggX12_pays_X12_finds_p7 : GoodIn wsX12_pays wsX120 := goodIn_r _ [129, 130, 131, 132, 133, 134, 135, 136, 137, 138, 139, 140, 141, 142, 143, 144, 145, 146, 147, 148, 149, 150, 151, 152, 153, 154, 155, 156, 157, 158, 159, 160, 161, 162, 163, 164, 165] (by decide +kernel) (by decide +kernel)
set_option maxRecDepth 20000 in
theorem ggX12_pays_X12_finds : GoodIn wsX12_pays wsX12_finds := goodIn_ca (goodIn_ca (goodIn_app ggX12_pays_X12_finds_p0 (goodIn_app (goodIn_app ggX12_pays_X12_finds_p1 (goodIn_app ggX12_pays_X12_finds_p2 (goodIn_app ggX12_pays_X12_finds_p3 (goodIn_app ggX12_pays_X12_finds_p4 (goodIn_app ggX12_pays_X12_finds_p5 ggX12_pays_X12_finds_p6))))) ggX12_pays_X12_finds_p7)) (goodIn_sub (fun _ h => List.mem_cons_of_mem _ (List.mem_append_left _ (List.mem_append_right _ h))) (by decide +kernel))) (goodIn_sub (fun _ h => List.mem_cons_of_mem _ (List.mem_append_right _ h)) (by decide +kernel))
set_option maxRecDepth 20000 in
theorem gX12_pays_X12_finds : GoodIn wsX12_pays (wsV RX12 211 RX12 yX12_finds wsX12_finds) := goodIn_app (goodIn_of _ (by decide +kernel)) ggX12_pays_X12_finds
set_option maxRecDepth 20000 in
theorem ggX12_pays_X12_looks : GoodIn wsX12_pays wsX12_looks := goodIn_ca (goodIn_r _ [23, 1, 24, 25, 3, 129, 130, 131, 132, 133, 134, 135, 136, 137, 138, 139, 140, 141, 142, 143, 144, 145, 146, 147, 148, 149, 150, 151, 152, 153, 154, 155, 156, 157, 158, 159, 160, 161, 162, 163, 164, 165] (by decide +kernel) (by decide +kernel)) (goodIn_sub (fun _ h => List.mem_cons_of_mem _ (List.mem_append_left _ (List.mem_append_right _ h))) (by decide +kernel))
set_option maxRecDepth 20000 in
theorem gX12_pays_X12_looks : GoodIn wsX12_pays (wsV RX12 103 RX12 yX12_looks wsX12_looks) := goodIn_app (goodIn_of _ (by decide +kernel)) ggX12_pays_X12_looks
theorem dX12_pays_0 : decode cX12_pays 0 = .ok (.aload_n 0, 1) := by decide +kernel
theorem dX12_pays_1 : decode cX12_pays 1 = .ok (.invokevirtual 211, 3) := by decide +kernel
theorem dX12_pays_4 : decode cX12_pays 4 = .ok (.aload_n 0, 1) := by decide +kernel
theorem dX12_pays_5 : decode cX12_pays 5 = .ok (.invokevirtual 103, 3) := by decide +kernel
theorem dX12_pays_8 : decode cX12_pays 8 = .ok (.iconst 0, 1) := by decide +kernel
theorem dX12_pays_9 : decode cX12_pays 9 = .ok (.istore_n 1, 1) := by decide +kernel
theorem dX12_pays_10 : decode cX12_pays 10 = .ok (.iconst 0, 1) := by decide +kernel
theorem dX12_pays_11 : decode cX12_pays 11 = .ok (.istore_n 2, 1) := by decide +kernel
theorem dX12_pays_12 : decode cX12_pays 12 = .ok (.iload_n 2, 1) := by decide +kernel
theorem dX12_pays_13 : decode cX12_pays 13 = .ok (.aload_n 0, 1) := by decide +kernel
theorem dX12_pays_14 : decode cX12_pays 14 = .ok (.getfield 93, 3) := by decide +kernel
theorem dX12_pays_17 : decode cX12_pays 17 = .ok (.if_icmp .ge 23, 3) := by decide +kernel
theorem dX12_pays_20 : decode cX12_pays 20 = .ok (.iload_n 1, 1) := by decide +kernel
theorem dX12_pays_21 : decode cX12_pays 21 = .ok (.aload_n 0, 1) := by decide +kernel
theorem dX12_pays_22 : decode cX12_pays 22 = .ok (.getfield 16, 3) := by decide +kernel
theorem dX12_pays_25 : decode cX12_pays 25 = .ok (.aload_n 0, 1) := by decide +kernel
theorem dX12_pays_26 : decode cX12_pays 26 = .ok (.getfield 52, 3) := by decide +kernel
theorem dX12_pays_29 : decode cX12_pays 29 = .ok (.iload_n 2, 1) := by decide +kernel
theorem dX12_pays_30 : decode cX12_pays 30 = .ok (.iaload, 1) := by decide +kernel
theorem dX12_pays_31 : decode cX12_pays 31 = .ok (.iaload, 1) := by decide +kernel
theorem dX12_pays_32 : decode cX12_pays 32 = .ok (.iadd, 1) := by decide +kernel
theorem dX12_pays_33 : decode cX12_pays 33 = .ok (.istore_n 1, 1) := by decide +kernel
theorem dX12_pays_34 : decode cX12_pays 34 = .ok (.iinc 2 1, 3) := by decide +kernel
theorem dX12_pays_37 : decode cX12_pays 37 = .ok (.goto (-25), 3) := by decide +kernel
theorem dX12_pays_40 : decode cX12_pays 40 = .ok (.iload_n 1, 1) := by decide +kernel
theorem dX12_pays_41 : decode cX12_pays 41 = .ok (.ireturn, 1) := by decide +kernel
set_option maxRecDepth 20000 in
theorem ggX12_toPay_X12_pays_p0 : GoodIn wsX12_toPay [.code yX12_pays cX12_pays 3 (some .int)] := goodIn_r _ [6] (by decide +kernel) (by decide +kernel)
set_option maxRecDepth 20000 in
theorem ggX12_toPay_X12_pays_p1 : GoodIn wsX12_toPay wsX12_pays_r1 := goodIn_r _ [7, 8, 9, 10, 11, 12, 5, 13, 14, 15, 16, 17, 18, 19, 20, 21, 22, 23, 24, 25, 26, 27, 28, 29] (by decide +kernel) (by decide +kernel)
set_option maxRecDepth 20000 in
theorem ggX12_toPay_X12_pays_p2 : GoodIn wsX12_toPay wsX12_pays_r2 := goodIn_r _ [30, 31, 32, 33, 34, 35, 36, 37, 38, 39, 40, 41, 42, 43, 44, 45, 46, 47, 48, 49, 50, 51, 52, 53] (by decide +kernel) (by decide +kernel)
set_option maxRecDepth 20000 in
theorem ggX12_toPay_X12_pays_p3 : GoodIn wsX12_toPay wsX12_pays_r3 := goodIn_r _ [54, 55, 56, 57, 58, 59, 60, 61, 62, 63, 64, 65, 66, 67, 68, 69, 70, 71, 72, 73, 74, 75, 76, 77] (by decide +kernel) (by decide +kernel)
set_option maxRecDepth 20000 in
theorem ggX12_toPay_X12_pays_p4 : GoodIn wsX12_toPay wsX12_pays_r4 := goodIn_r _ [78, 79, 80, 81, 82, 83, 84, 85, 86, 87, 88, 89, 90, 91, 92, 93, 94, 95, 96, 97, 98, 99, 100, 101] (by decide +kernel) (by decide +kernel)
set_option maxRecDepth 20000 in
theorem ggX12_toPay_X12_pays_p5 : GoodIn wsX12_toPay wsX12_pays_r5 := goodIn_r _ [102, 103, 104, 105, 106, 107, 108, 109, 110, 111, 112, 113, 114, 115, 116, 117, 118, 119, 120, 121, 122, 123, 124, 125] (by decide +kernel) (by decide +kernel)
set_option maxRecDepth 20000 in
theorem ggX12_toPay_X12_pays_p6 : GoodIn wsX12_toPay wsX12_pays_r6 := goodIn_r _ [126, 127, 128, 129, 130, 131, 132, 133] (by decide +kernel) (by decide +kernel)
set_option maxRecDepth 20000 in
theorem ggX12_toPay_X12_pays_p7 : GoodIn wsX12_toPay wsX120 := goodIn_r _ [134, 135, 136, 137, 138, 139, 140, 141, 142, 143, 144, 145, 146, 147, 148, 149, 150, 151, 152, 153, 154, 155, 156, 157, 158, 159, 160, 161, 162, 163, 164, 165, 166, 167, 168, 169, 170] (by decide +kernel) (by decide +kernel)
set_option maxRecDepth 20000 in
theorem ggX12_toPay_X12_pays : GoodIn wsX12_toPay wsX12_pays := goodIn_ca (goodIn_ca (goodIn_app ggX12_toPay_X12_pays_p0 (goodIn_app (goodIn_app ggX12_toPay_X12_pays_p1 (goodIn_app ggX12_toPay_X12_pays_p2 (goodIn_app ggX12_toPay_X12_pays_p3 (goodIn_app ggX12_toPay_X12_pays_p4 (goodIn_app ggX12_toPay_X12_pays_p5 ggX12_toPay_X12_pays_p6))))) ggX12_toPay_X12_pays_p7)) (goodIn_sub (fun _ h => List.mem_cons_of_mem _ (List.mem_append_left _ (List.mem_append_right _ h))) (by decide +kernel))) (goodIn_sub (fun _ h => List.mem_cons_of_mem _ (List.mem_append_right _ h)) (by decide +kernel))
set_option maxRecDepth 20000 in
theorem gX12_toPay_X12_pays : GoodIn wsX12_toPay (wsV RX12 229 RX12 yX12_pays wsX12_pays) := goodIn_app (goodIn_of _ (by decide +kernel)) ggX12_toPay_X12_pays
theorem dX12_toPay_0 : decode cX12_toPay 0 = .ok (.aload_n 0, 1) := by decide +kernel
theorem dX12_toPay_1 : decode cX12_toPay 1 = .ok (.iconst 0, 1) := by decide +kernel
theorem dX12_toPay_2 : decode cX12_toPay 2 = .ok (.putfield 89, 3) := by decide +kernel
theorem dX12_toPay_5 : decode cX12_toPay 5 = .ok (.aload_n 0, 1) := by decide +kernel
theorem dX12_toPay_6 : decode cX12_toPay 6 = .ok (.invokevirtual 229, 3) := by decide +kernel
theorem dX12_toPay_9 : decode cX12_toPay 9 = .ok (.ireturn, 1) := by decide +kernel
set_option maxRecDepth 20000 in
theorem ggX12_sell_X12_looks : GoodIn wsX12_sell wsX12_looks := goodIn_ca (goodIn_r _ [16, 1, 17, 7, 8, 141, 142, 143, 144, 145, 146, 147, 148, 149, 150, 151, 152, 153, 154, 155, 156, 157, 158, 159, 160, 161, 162, 163, 164, 165, 166, 167, 168, 169, 170, 171, 172, 173, 174, 175, 176, 177] (by decide +kernel) (by decide +kernel)) (goodIn_sub (fun _ h => List.mem_cons_of_mem _ (List.mem_append_left _ (List.mem_append_right _ h))) (by decide +kernel))
set_option maxRecDepth 20000 in
theorem gX12_sell_X12_looks : GoodIn wsX12_sell (wsV RX12 103 RX12 yX12_looks wsX12_looks) := goodIn_app (goodIn_of _ (by decide +kernel)) ggX12_sell_X12_looks
set_option maxRecDepth 20000 in
theorem ggX12_sell_X12_pays_p0 : GoodIn wsX12_sell [.code yX12_pays cX12_pays 3 (some .int)] := goodIn_r _ [21] (by decide +kernel) (by decide +kernel)
set_option maxRecDepth 20000 in
theorem ggX12_sell_X12_pays_p1 : GoodIn wsX12_sell wsX12_pays_r1 := goodIn_r _ [1, 22, 8, 23, 24, 25, 15, 26, 11, 3, 27, 28, 29, 30, 31, 32, 33, 34, 35, 12, 13, 14, 16, 17] (by decide +kernel) (by decide +kernel)
set_option maxRecDepth 20000 in
theorem ggX12_sell_X12_pays_p2 : GoodIn wsX12_sell wsX12_pays_r2 := goodIn_r _ [7, 36, 37, 38, 39, 40, 41, 42, 43, 44, 45, 46, 47, 48, 49, 50, 4, 5, 51, 52, 53, 54, 55, 56] (by decide +kernel) (by decide +kernel)
set_option maxRecDepth 20000 in
theorem ggX12_sell_X12_pays_p3 : GoodIn wsX12_sell wsX12_pays_r3 := goodIn_r _ [57, 58, 59, 60, 61, 62, 63, 64, 65, 66, 67, 68, 69, 70, 71, 72, 73, 74, 75, 76, 77, 78, 79, 80] (by decide +kernel) (by decide +kernel)
set_option maxRecDepth 20000 in
theorem ggX12_sell_X12_pays_p4 : GoodIn wsX12_sell wsX12_pays_r4 := goodIn_r _ [81, 82, 83, 84, 85, 86, 87, 88, 89, 90, 91, 92, 93, 94, 95, 96, 97, 98, 99, 100, 101, 102, 103, 104] (by decide +kernel) (by decide +kernel)
set_option maxRecDepth 20000 in
theorem ggX12_sell_X12_pays_p5 : GoodIn wsX12_sell wsX12_pays_r5 := goodIn_r _ [105, 106, 107, 108, 109, 110, 111, 112, 113, 114, 115, 116, 117, 118, 119, 120, 121, 122, 123, 124, 125, 126, 127, 128] (by decide +kernel) (by decide +kernel)
set_option maxRecDepth 20000 in
theorem ggX12_sell_X12_pays_p6 : GoodIn wsX12_sell wsX12_pays_r6 := goodIn_r _ [129, 130, 131, 132, 133, 134, 135, 136] (by decide +kernel) (by decide +kernel)
set_option maxRecDepth 20000 in
theorem ggX12_sell_X12_pays_p7 : GoodIn wsX12_sell wsX120 := goodIn_r _ [141, 142, 143, 144, 145, 146, 147, 148, 149, 150, 151, 152, 153, 154, 155, 156, 157, 158, 159, 160, 161, 162, 163, 164, 165, 166, 167, 168, 169, 170, 171, 172, 173, 174, 175, 176, 177] (by decide +kernel) (by decide +kernel)
set_option maxRecDepth 20000 in
theorem ggX12_sell_X12_pays : GoodIn wsX12_sell wsX12_pays := goodIn_ca (goodIn_ca (goodIn_app ggX12_sell_X12_pays_p0 (goodIn_app (goodIn_app ggX12_sell_X12_pays_p1 (goodIn_app ggX12_sell_X12_pays_p2 (goodIn_app ggX12_sell_X12_pays_p3 (goodIn_app ggX12_sell_X12_pays_p4 (goodIn_app ggX12_sell_X12_pays_p5 ggX12_sell_X12_pays_p6))))) ggX12_sell_X12_pays_p7)) (goodIn_sub (fun _ h => List.mem_cons_of_mem _ (List.mem_append_left _ (List.mem_append_right _ h))) (by decide +kernel))) (goodIn_sub (fun _ h => List.mem_cons_of_mem _ (List.mem_append_right _ h)) (by decide +kernel))
set_option maxRecDepth 20000 in
theorem gX12_sell_X12_pays : GoodIn wsX12_sell (wsV RX12 229 RX12 yX12_pays wsX12_pays) := goodIn_app (goodIn_of _ (by decide +kernel)) ggX12_sell_X12_pays
set_option maxRecDepth 20000 in
theorem ggX12_sell_X12_usesOf : GoodIn wsX12_sell wsX12_usesOf := goodIn_ca (goodIn_r _ [140, 41, 112, 102, 141, 142, 143, 144, 145, 146, 147, 148, 149, 150, 151, 152, 153, 154, 155, 156, 157, 158, 159, 160, 161, 162, 163, 164, 165, 166, 167, 168, 169, 170, 171, 172, 173, 174, 175, 176, 177] (by decide +kernel) (by decide +kernel)) (goodIn_sub (fun _ h => List.mem_cons_of_mem _ (List.mem_append_left _ (List.mem_append_right _ h))) (by decide +kernel))
set_option maxRecDepth 20000 in
theorem gX12_sell_X12_usesOf : GoodIn wsX12_sell (wsV RX12 223 RX12 yX12_usesOf wsX12_usesOf) := goodIn_app (goodIn_of _ (by decide +kernel)) ggX12_sell_X12_usesOf
theorem dX12_sell_0 : decode cX12_sell 0 = .ok (.aload_n 0, 1) := by decide +kernel
theorem dX12_sell_1 : decode cX12_sell 1 = .ok (.invokevirtual 103, 3) := by decide +kernel
theorem dX12_sell_4 : decode cX12_sell 4 = .ok (.aload_n 0, 1) := by decide +kernel
theorem dX12_sell_5 : decode cX12_sell 5 = .ok (.aload_n 0, 1) := by decide +kernel
theorem dX12_sell_6 : decode cX12_sell 6 = .ok (.getfield 93, 3) := by decide +kernel
theorem dX12_sell_9 : decode cX12_sell 9 = .ok (.ifCond .ne 7, 3) := by decide +kernel
theorem dX12_sell_12 : decode cX12_sell 12 = .ok (.iconst 1, 1) := by decide +kernel
theorem dX12_sell_13 : decode cX12_sell 13 = .ok (.goto 4, 3) := by decide +kernel
theorem dX12_sell_16 : decode cX12_sell 16 = .ok (.iconst 0, 1) := by decide +kernel
theorem dX12_sell_17 : decode cX12_sell 17 = .ok (.putfield 89, 3) := by decide +kernel
theorem dX12_sell_20 : decode cX12_sell 20 = .ok (.aload_n 0, 1) := by decide +kernel
theorem dX12_sell_21 : decode cX12_sell 21 = .ok (.getfield 89, 3) := by decide +kernel
theorem dX12_sell_24 : decode cX12_sell 24 = .ok (.ifCond .le 5, 3) := by decide +kernel
theorem dX12_sell_27 : decode cX12_sell 27 = .ok (.iconst 0, 1) := by decide +kernel
theorem dX12_sell_28 : decode cX12_sell 28 = .ok (.ireturn, 1) := by decide +kernel
theorem dX12_sell_29 : decode cX12_sell 29 = .ok (.aload_n 0, 1) := by decide +kernel
theorem dX12_sell_30 : decode cX12_sell 30 = .ok (.invokevirtual 229, 3) := by decide +kernel
theorem dX12_sell_33 : decode cX12_sell 33 = .ok (.istore_n 1, 1) := by decide +kernel
theorem dX12_sell_34 : decode cX12_sell 34 = .ok (.iconst 0, 1) := by decide +kernel
theorem dX12_sell_35 : decode cX12_sell 35 = .ok (.istore_n 2, 1) := by decide +kernel
theorem dX12_sell_36 : decode cX12_sell 36 = .ok (.iload_n 2, 1) := by decide +kernel
theorem dX12_sell_37 : decode cX12_sell 37 = .ok (.aload_n 0, 1) := by decide +kernel
theorem dX12_sell_38 : decode cX12_sell 38 = .ok (.getfield 121, 3) := by decide +kernel
theorem dX12_sell_41 : decode cX12_sell 41 = .ok (.if_icmp .ge 42, 3) := by decide +kernel
theorem dX12_sell_44 : decode cX12_sell 44 = .ok (.aload_n 0, 1) := by decide +kernel
theorem dX12_sell_45 : decode cX12_sell 45 = .ok (.getfield 49, 3) := by decide +kernel
theorem dX12_sell_48 : decode cX12_sell 48 = .ok (.aload_n 0, 1) := by decide +kernel
theorem dX12_sell_49 : decode cX12_sell 49 = .ok (.getfield 114, 3) := by decide +kernel
theorem dX12_sell_52 : decode cX12_sell 52 = .ok (.aaload, 1) := by decide +kernel
theorem dX12_sell_53 : decode cX12_sell 53 = .ok (.iload_n 2, 1) := by decide +kernel
theorem dX12_sell_54 : decode cX12_sell 54 = .ok (.dup2, 1) := by decide +kernel
theorem dX12_sell_55 : decode cX12_sell 55 = .ok (.iaload, 1) := by decide +kernel
theorem dX12_sell_56 : decode cX12_sell 56 = .ok (.aload_n 0, 1) := by decide +kernel
theorem dX12_sell_57 : decode cX12_sell 57 = .ok (.iload_n 2, 1) := by decide +kernel
theorem dX12_sell_58 : decode cX12_sell 58 = .ok (.invokevirtual 223, 3) := by decide +kernel
theorem dX12_sell_61 : decode cX12_sell 61 = .ok (.iadd, 1) := by decide +kernel
theorem dX12_sell_62 : decode cX12_sell 62 = .ok (.iastore, 1) := by decide +kernel
theorem dX12_sell_63 : decode cX12_sell 63 = .ok (.aload_n 0, 1) := by decide +kernel
theorem dX12_sell_64 : decode cX12_sell 64 = .ok (.dup, 1) := by decide +kernel
theorem dX12_sell_65 : decode cX12_sell 65 = .ok (.getfield 232, 3) := by decide +kernel
theorem dX12_sell_68 : decode cX12_sell 68 = .ok (.aload_n 0, 1) := by decide +kernel
theorem dX12_sell_69 : decode cX12_sell 69 = .ok (.iload_n 2, 1) := by decide +kernel
theorem dX12_sell_70 : decode cX12_sell 70 = .ok (.invokevirtual 223, 3) := by decide +kernel
theorem dX12_sell_73 : decode cX12_sell 73 = .ok (.iadd, 1) := by decide +kernel
theorem dX12_sell_74 : decode cX12_sell 74 = .ok (.putfield 232, 3) := by decide +kernel
theorem dX12_sell_77 : decode cX12_sell 77 = .ok (.iinc 2 1, 3) := by decide +kernel
theorem dX12_sell_80 : decode cX12_sell 80 = .ok (.goto (-44), 3) := by decide +kernel
theorem dX12_sell_83 : decode cX12_sell 83 = .ok (.iconst 0, 1) := by decide +kernel
theorem dX12_sell_84 : decode cX12_sell 84 = .ok (.istore_n 2, 1) := by decide +kernel
theorem dX12_sell_85 : decode cX12_sell 85 = .ok (.iload_n 2, 1) := by decide +kernel
theorem dX12_sell_86 : decode cX12_sell 86 = .ok (.aload_n 0, 1) := by decide +kernel
theorem dX12_sell_87 : decode cX12_sell 87 = .ok (.getfield 93, 3) := by decide +kernel
theorem dX12_sell_90 : decode cX12_sell 90 = .ok (.if_icmp .ge 37, 3) := by decide +kernel
theorem dX12_sell_93 : decode cX12_sell 93 = .ok (.aload_n 0, 1) := by decide +kernel
theorem dX12_sell_94 : decode cX12_sell 94 = .ok (.getfield 22, 3) := by decide +kernel
theorem dX12_sell_97 : decode cX12_sell 97 = .ok (.aload_n 0, 1) := by decide +kernel
theorem dX12_sell_98 : decode cX12_sell 98 = .ok (.getfield 52, 3) := by decide +kernel
theorem dX12_sell_101 : decode cX12_sell 101 = .ok (.iload_n 2, 1) := by decide +kernel
theorem dX12_sell_102 : decode cX12_sell 102 = .ok (.iaload, 1) := by decide +kernel
theorem dX12_sell_103 : decode cX12_sell 103 = .ok (.bipush 115, 2) := by decide +kernel
theorem dX12_sell_105 : decode cX12_sell 105 = .ok (.castore, 1) := by decide +kernel
theorem dX12_sell_106 : decode cX12_sell 106 = .ok (.aload_n 0, 1) := by decide +kernel
theorem dX12_sell_107 : decode cX12_sell 107 = .ok (.getfield 19, 3) := by decide +kernel
theorem dX12_sell_110 : decode cX12_sell 110 = .ok (.aload_n 0, 1) := by decide +kernel
theorem dX12_sell_111 : decode cX12_sell 111 = .ok (.getfield 52, 3) := by decide +kernel
theorem dX12_sell_114 : decode cX12_sell 114 = .ok (.iload_n 2, 1) := by decide +kernel
theorem dX12_sell_115 : decode cX12_sell 115 = .ok (.iaload, 1) := by decide +kernel
theorem dX12_sell_116 : decode cX12_sell 116 = .ok (.aload_n 0, 1) := by decide +kernel
theorem dX12_sell_117 : decode cX12_sell 117 = .ok (.getfield 114, 3) := by decide +kernel
theorem dX12_sell_120 : decode cX12_sell 120 = .ok (.iastore, 1) := by decide +kernel
theorem dX12_sell_121 : decode cX12_sell 121 = .ok (.iinc 2 1, 3) := by decide +kernel
theorem dX12_sell_124 : decode cX12_sell 124 = .ok (.goto (-39), 3) := by decide +kernel
theorem dX12_sell_127 : decode cX12_sell 127 = .ok (.aload_n 0, 1) := by decide +kernel
theorem dX12_sell_128 : decode cX12_sell 128 = .ok (.dup, 1) := by decide +kernel
theorem dX12_sell_129 : decode cX12_sell 129 = .ok (.getfield 235, 3) := by decide +kernel
theorem dX12_sell_132 : decode cX12_sell 132 = .ok (.iload_n 1, 1) := by decide +kernel
theorem dX12_sell_133 : decode cX12_sell 133 = .ok (.i2l, 1) := by decide +kernel
theorem dX12_sell_134 : decode cX12_sell 134 = .ok (.ladd, 1) := by decide +kernel
theorem dX12_sell_135 : decode cX12_sell 135 = .ok (.putfield 235, 3) := by decide +kernel
theorem dX12_sell_138 : decode cX12_sell 138 = .ok (.aload_n 0, 1) := by decide +kernel
theorem dX12_sell_139 : decode cX12_sell 139 = .ok (.iconst 0, 1) := by decide +kernel
theorem dX12_sell_140 : decode cX12_sell 140 = .ok (.putfield 106, 3) := by decide +kernel
theorem dX12_sell_143 : decode cX12_sell 143 = .ok (.iload_n 1, 1) := by decide +kernel
theorem dX12_sell_144 : decode cX12_sell 144 = .ok (.ireturn, 1) := by decide +kernel
set_option maxRecDepth 20000 in
theorem ggX12_isSold_X12_in : GoodIn wsX12_isSold wsX12_in := goodIn_r _ [6] (by decide +kernel) (by decide +kernel)
set_option maxRecDepth 20000 in
theorem gX12_isSold_X12_in : GoodIn wsX12_isSold (va_wsS RX12 99 yX12_in wsX12_in) := goodIn_app (goodIn_of _ (by decide +kernel)) ggX12_isSold_X12_in
theorem dX12_isSold_0 : decode cX12_isSold 0 = .ok (.iload_n 1, 1) := by decide +kernel
theorem dX12_isSold_1 : decode cX12_isSold 1 = .ok (.iconst 0, 1) := by decide +kernel
theorem dX12_isSold_2 : decode cX12_isSold 2 = .ok (.aload_n 0, 1) := by decide +kernel
theorem dX12_isSold_3 : decode cX12_isSold 3 = .ok (.getfield 96, 3) := by decide +kernel
theorem dX12_isSold_6 : decode cX12_isSold 6 = .ok (.iconst 1, 1) := by decide +kernel
theorem dX12_isSold_7 : decode cX12_isSold 7 = .ok (.isub, 1) := by decide +kernel
theorem dX12_isSold_8 : decode cX12_isSold 8 = .ok (.invokestatic 99, 3) := by decide +kernel
theorem dX12_isSold_11 : decode cX12_isSold 11 = .ok (.ifCond .eq 29, 3) := by decide +kernel
theorem dX12_isSold_14 : decode cX12_isSold 14 = .ok (.aload_n 0, 1) := by decide +kernel
theorem dX12_isSold_15 : decode cX12_isSold 15 = .ok (.getfield 22, 3) := by decide +kernel
theorem dX12_isSold_18 : decode cX12_isSold 18 = .ok (.iload_n 1, 1) := by decide +kernel
theorem dX12_isSold_19 : decode cX12_isSold 19 = .ok (.caload, 1) := by decide +kernel
theorem dX12_isSold_20 : decode cX12_isSold 20 = .ok (.bipush 115, 2) := by decide +kernel
theorem dX12_isSold_22 : decode cX12_isSold 22 = .ok (.if_icmp .eq 14, 3) := by decide +kernel
theorem dX12_isSold_25 : decode cX12_isSold 25 = .ok (.aload_n 0, 1) := by decide +kernel
theorem dX12_isSold_26 : decode cX12_isSold 26 = .ok (.getfield 22, 3) := by decide +kernel
theorem dX12_isSold_29 : decode cX12_isSold 29 = .ok (.iload_n 1, 1) := by decide +kernel
theorem dX12_isSold_30 : decode cX12_isSold 30 = .ok (.caload, 1) := by decide +kernel
theorem dX12_isSold_31 : decode cX12_isSold 31 = .ok (.bipush 114, 2) := by decide +kernel
theorem dX12_isSold_33 : decode cX12_isSold 33 = .ok (.if_icmp .ne 7, 3) := by decide +kernel
theorem dX12_isSold_36 : decode cX12_isSold 36 = .ok (.iconst 1, 1) := by decide +kernel
theorem dX12_isSold_37 : decode cX12_isSold 37 = .ok (.goto 4, 3) := by decide +kernel
theorem dX12_isSold_40 : decode cX12_isSold 40 = .ok (.iconst 0, 1) := by decide +kernel
theorem dX12_isSold_41 : decode cX12_isSold 41 = .ok (.ireturn, 1) := by decide +kernel
set_option maxRecDepth 20000 in
theorem ggX12_giveBack_X12_isSold : GoodIn wsX12_giveBack wsX12_isSold := goodIn_ca (goodIn_r _ [9, 10, 1, 11, 12, 8, 13, 14, 15, 16, 17, 18, 19, 20, 21, 22, 23, 24, 25, 26, 27, 28, 29, 30, 31, 32, 33, 34, 35, 36, 37, 38, 39, 40, 41, 42, 43, 44, 45, 46, 47, 48, 49, 50] (by decide +kernel) (by decide +kernel)) (goodIn_sub (fun _ h => List.mem_cons_of_mem _ (List.mem_append_right _ h)) (by decide +kernel))
set_option maxRecDepth 20000 in
theorem gX12_giveBack_X12_isSold : GoodIn wsX12_giveBack (wsV RX12 239 RX12 yX12_isSold wsX12_isSold) := goodIn_app (goodIn_of _ (by decide +kernel)) ggX12_giveBack_X12_isSold
theorem dX12_giveBack_0 : decode cX12_giveBack 0 = .ok (.aload_n 0, 1) := by decide +kernel
theorem dX12_giveBack_1 : decode cX12_giveBack 1 = .ok (.aload_n 0, 1) := by decide +kernel
theorem dX12_giveBack_2 : decode cX12_giveBack 2 = .ok (.iload_n 1, 1) := by decide +kernel
theorem dX12_giveBack_3 : decode cX12_giveBack 3 = .ok (.invokevirtual 239, 3) := by decide +kernel
theorem dX12_giveBack_6 : decode cX12_giveBack 6 = .ok (.ifCond .ne 7, 3) := by decide +kernel
theorem dX12_giveBack_9 : decode cX12_giveBack 9 = .ok (.iconst 1, 1) := by decide +kernel
theorem dX12_giveBack_10 : decode cX12_giveBack 10 = .ok (.goto 19, 3) := by decide +kernel
theorem dX12_giveBack_13 : decode cX12_giveBack 13 = .ok (.aload_n 0, 1) := by decide +kernel
theorem dX12_giveBack_14 : decode cX12_giveBack 14 = .ok (.getfield 22, 3) := by decide +kernel
theorem dX12_giveBack_17 : decode cX12_giveBack 17 = .ok (.iload_n 1, 1) := by decide +kernel
theorem dX12_giveBack_18 : decode cX12_giveBack 18 = .ok (.caload, 1) := by decide +kernel
theorem dX12_giveBack_19 : decode cX12_giveBack 19 = .ok (.bipush 114, 2) := by decide +kernel
theorem dX12_giveBack_21 : decode cX12_giveBack 21 = .ok (.if_icmp .ne 7, 3) := by decide +kernel
theorem dX12_giveBack_24 : decode cX12_giveBack 24 = .ok (.iconst 2, 1) := by decide +kernel
theorem dX12_giveBack_25 : decode cX12_giveBack 25 = .ok (.goto 4, 3) := by decide +kernel
theorem dX12_giveBack_28 : decode cX12_giveBack 28 = .ok (.iconst 0, 1) := by decide +kernel
theorem dX12_giveBack_29 : decode cX12_giveBack 29 = .ok (.putfield 89, 3) := by decide +kernel
theorem dX12_giveBack_32 : decode cX12_giveBack 32 = .ok (.aload_n 0, 1) := by decide +kernel
theorem dX12_giveBack_33 : decode cX12_giveBack 33 = .ok (.getfield 89, 3) := by decide +kernel
theorem dX12_giveBack_36 : decode cX12_giveBack 36 = .ok (.ifCond .le 5, 3) := by decide +kernel
theorem dX12_giveBack_39 : decode cX12_giveBack 39 = .ok (.iconst 0, 1) := by decide +kernel
theorem dX12_giveBack_40 : decode cX12_giveBack 40 = .ok (.ireturn, 1) := by decide +kernel
theorem dX12_giveBack_41 : decode cX12_giveBack 41 = .ok (.aload_n 0, 1) := by decide +kernel
theorem dX12_giveBack_42 : decode cX12_giveBack 42 = .ok (.getfield 22, 3) := by decide +kernel
theorem dX12_giveBack_45 : decode cX12_giveBack 45 = .ok (.iload_n 1, 1) := by decide +kernel
theorem dX12_giveBack_46 : decode cX12_giveBack 46 = .ok (.bipush 114, 2) := by decide +kernel
theorem dX12_giveBack_48 : decode cX12_giveBack 48 = .ok (.castore, 1) := by decide +kernel
theorem dX12_giveBack_49 : decode cX12_giveBack 49 = .ok (.aload_n 0, 1) := by decide +kernel
theorem dX12_giveBack_50 : decode cX12_giveBack 50 = .ok (.dup, 1) := by decide +kernel
theorem dX12_giveBack_51 : decode cX12_giveBack 51 = .ok (.getfield 235, 3) := by decide +kernel
theorem dX12_giveBack_54 : decode cX12_giveBack 54 = .ok (.aload_n 0, 1) := by decide +kernel
theorem dX12_giveBack_55 : decode cX12_giveBack 55 = .ok (.getfield 16, 3) := by decide +kernel
theorem dX12_giveBack_58 : decode cX12_giveBack 58 = .ok (.iload_n 1, 1) := by decide +kernel
theorem dX12_giveBack_59 : decode cX12_giveBack 59 = .ok (.iaload, 1) := by decide +kernel
theorem dX12_giveBack_60 : decode cX12_giveBack 60 = .ok (.i2l, 1) := by decide +kernel
theorem dX12_giveBack_61 : decode cX12_giveBack 61 = .ok (.lsub, 1) := by decide +kernel
theorem dX12_giveBack_62 : decode cX12_giveBack 62 = .ok (.putfield 235, 3) := by decide +kernel
theorem dX12_giveBack_65 : decode cX12_giveBack 65 = .ok (.aload_n 0, 1) := by decide +kernel
theorem dX12_giveBack_66 : decode cX12_giveBack 66 = .ok (.getfield 16, 3) := by decide +kernel
theorem dX12_giveBack_69 : decode cX12_giveBack 69 = .ok (.iload_n 1, 1) := by decide +kernel
theorem dX12_giveBack_70 : decode cX12_giveBack 70 = .ok (.iaload, 1) := by decide +kernel
theorem dX12_giveBack_71 : decode cX12_giveBack 71 = .ok (.ireturn, 1) := by decide +kernel
set_option maxRecDepth 20000 in
theorem ggX12_soldTo_X12_isSold : GoodIn wsX12_soldTo wsX12_isSold := goodIn_ca (goodIn_r _ [7, 8, 9, 10, 11, 6, 12, 13, 14, 15, 16, 17, 18, 19, 20, 21, 22, 23, 24, 25, 26, 27, 28, 29, 30, 31, 32, 33, 34, 35, 36, 37, 38, 39, 40, 41, 42, 43, 44, 45, 46, 47, 48, 49] (by decide +kernel) (by decide +kernel)) (goodIn_sub (fun _ h => List.mem_cons_of_mem _ (List.mem_append_right _ h)) (by decide +kernel))
set_option maxRecDepth 20000 in
theorem gX12_soldTo_X12_isSold : GoodIn wsX12_soldTo (wsV RX12 239 RX12 yX12_isSold wsX12_isSold) := goodIn_app (goodIn_of _ (by decide +kernel)) ggX12_soldTo_X12_isSold
theorem dX12_soldTo_0 : decode cX12_soldTo 0 = .ok (.aload_n 0, 1) := by decide +kernel
theorem dX12_soldTo_1 : decode cX12_soldTo 1 = .ok (.aload_n 0, 1) := by decide +kernel
theorem dX12_soldTo_2 : decode cX12_soldTo 2 = .ok (.iload_n 1, 1) := by decide +kernel
theorem dX12_soldTo_3 : decode cX12_soldTo 3 = .ok (.invokevirtual 239, 3) := by decide +kernel
theorem dX12_soldTo_6 : decode cX12_soldTo 6 = .ok (.ifCond .eq 7, 3) := by decide +kernel
theorem dX12_soldTo_9 : decode cX12_soldTo 9 = .ok (.iconst 0, 1) := by decide +kernel
theorem dX12_soldTo_10 : decode cX12_soldTo 10 = .ok (.goto 4, 3) := by decide +kernel
theorem dX12_soldTo_13 : decode cX12_soldTo 13 = .ok (.iconst 1, 1) := by decide +kernel
theorem dX12_soldTo_14 : decode cX12_soldTo 14 = .ok (.putfield 89, 3) := by decide +kernel
theorem dX12_soldTo_17 : decode cX12_soldTo 17 = .ok (.aload_n 0, 1) := by decide +kernel
theorem dX12_soldTo_18 : decode cX12_soldTo 18 = .ok (.getfield 89, 3) := by decide +kernel
theorem dX12_soldTo_21 : decode cX12_soldTo 21 = .ok (.ifCond .le 7, 3) := by decide +kernel
theorem dX12_soldTo_24 : decode cX12_soldTo 24 = .ok (.iconst 0, 1) := by decide +kernel
theorem dX12_soldTo_25 : decode cX12_soldTo 25 = .ok (.goto 9, 3) := by decide +kernel
theorem dX12_soldTo_28 : decode cX12_soldTo 28 = .ok (.aload_n 0, 1) := by decide +kernel
theorem dX12_soldTo_29 : decode cX12_soldTo 29 = .ok (.getfield 19, 3) := by decide +kernel
theorem dX12_soldTo_32 : decode cX12_soldTo 32 = .ok (.iload_n 1, 1) := by decide +kernel
theorem dX12_soldTo_33 : decode cX12_soldTo 33 = .ok (.iaload, 1) := by decide +kernel
theorem dX12_soldTo_34 : decode cX12_soldTo 34 = .ok (.ireturn, 1) := by decide +kernel
theorem dX12_usesInAll_0 : decode cX12_usesInAll 0 = .ok (.aload_n 0, 1) := by decide +kernel
theorem dX12_usesInAll_1 : decode cX12_usesInAll 1 = .ok (.iconst 0, 1) := by decide +kernel
theorem dX12_usesInAll_2 : decode cX12_usesInAll 2 = .ok (.putfield 89, 3) := by decide +kernel
theorem dX12_usesInAll_5 : decode cX12_usesInAll 5 = .ok (.aload_n 0, 1) := by decide +kernel
theorem dX12_usesInAll_6 : decode cX12_usesInAll 6 = .ok (.getfield 232, 3) := by decide +kernel
theorem dX12_usesInAll_9 : decode cX12_usesInAll 9 = .ok (.ireturn, 1) := by decide +kernel
theorem dX12_turnover_0 : decode cX12_turnover 0 = .ok (.aload_n 0, 1) := by decide +kernel
theorem dX12_turnover_1 : decode cX12_turnover 1 = .ok (.iconst 0, 1) := by decide +kernel
theorem dX12_turnover_2 : decode cX12_turnover 2 = .ok (.putfield 89, 3) := by decide +kernel
theorem dX12_turnover_5 : decode cX12_turnover 5 = .ok (.aload_n 0, 1) := by decide +kernel
theorem dX12_turnover_6 : decode cX12_turnover 6 = .ok (.getfield 235, 3) := by decide +kernel
theorem dX12_turnover_9 : decode cX12_turnover 9 = .ok (.lreturn, 1) := by decide +kernel
set_option maxRecDepth 20000 in
theorem ggX12_sold_X12_isSold : GoodIn wsX12_sold wsX12_isSold := goodIn_ca (goodIn_r _ [8, 1, 9, 10, 11, 7, 12, 13, 14, 15, 16, 17, 18, 19, 20, 21, 22, 23, 24, 25, 26, 27, 28, 29, 30, 31, 32, 33, 34, 35, 36, 37, 38, 39, 40, 41, 42, 43, 44, 45, 46, 47, 48, 49] (by decide +kernel) (by decide +kernel)) (goodIn_sub (fun _ h => List.mem_cons_of_mem _ (List.mem_append_right _ h)) (by decide +kernel))
set_option maxRecDepth 20000 in
theorem gX12_sold_X12_isSold : GoodIn wsX12_sold (wsV RX12 239 RX12 yX12_isSold wsX12_isSold) := goodIn_app (goodIn_of _ (by decide +kernel)) ggX12_sold_X12_isSold
theorem dX12_sold_0 : decode cX12_sold 0 = .ok (.iconst 0, 1) := by decide +kernel
theorem dX12_sold_1 : decode cX12_sold 1 = .ok (.istore_n 2, 1) := by decide +kernel
theorem dX12_sold_2 : decode cX12_sold 2 = .ok (.iconst 0, 1) := by decide +kernel
theorem dX12_sold_3 : decode cX12_sold 3 = .ok (.istore_n 3, 1) := by decide +kernel
theorem dX12_sold_4 : decode cX12_sold 4 = .ok (.iload_n 3, 1) := by decide +kernel
theorem dX12_sold_5 : decode cX12_sold 5 = .ok (.aload_n 0, 1) := by decide +kernel
theorem dX12_sold_6 : decode cX12_sold 6 = .ok (.getfield 96, 3) := by decide +kernel
theorem dX12_sold_9 : decode cX12_sold 9 = .ok (.if_icmp .ge 52, 3) := by decide +kernel
theorem dX12_sold_12 : decode cX12_sold 12 = .ok (.iload_n 2, 1) := by decide +kernel
theorem dX12_sold_13 : decode cX12_sold 13 = .ok (.aload_n 0, 1) := by decide +kernel
theorem dX12_sold_14 : decode cX12_sold 14 = .ok (.iload_n 3, 1) := by decide +kernel
theorem dX12_sold_15 : decode cX12_sold 15 = .ok (.invokevirtual 239, 3) := by decide +kernel
theorem dX12_sold_18 : decode cX12_sold 18 = .ok (.ifCond .ne 7, 3) := by decide +kernel
theorem dX12_sold_21 : decode cX12_sold 21 = .ok (.iconst 0, 1) := by decide +kernel
theorem dX12_sold_22 : decode cX12_sold 22 = .ok (.goto 31, 3) := by decide +kernel
theorem dX12_sold_25 : decode cX12_sold 25 = .ok (.iload_n 1, 1) := by decide +kernel
theorem dX12_sold_26 : decode cX12_sold 26 = .ok (.ifCond .ne 12, 3) := by decide +kernel
theorem dX12_sold_29 : decode cX12_sold 29 = .ok (.aload_n 0, 1) := by decide +kernel
theorem dX12_sold_30 : decode cX12_sold 30 = .ok (.getfield 13, 3) := by decide +kernel
theorem dX12_sold_33 : decode cX12_sold 33 = .ok (.iload_n 3, 1) := by decide +kernel
theorem dX12_sold_34 : decode cX12_sold 34 = .ok (.iaload, 1) := by decide +kernel
theorem dX12_sold_35 : decode cX12_sold 35 = .ok (.goto 18, 3) := by decide +kernel
theorem dX12_sold_38 : decode cX12_sold 38 = .ok (.iload_n 1, 1) := by decide +kernel
theorem dX12_sold_39 : decode cX12_sold 39 = .ok (.iconst 1, 1) := by decide +kernel
theorem dX12_sold_40 : decode cX12_sold 40 = .ok (.if_icmp .ne 12, 3) := by decide +kernel
theorem dX12_sold_43 : decode cX12_sold 43 = .ok (.aload_n 0, 1) := by decide +kernel
theorem dX12_sold_44 : decode cX12_sold 44 = .ok (.getfield 16, 3) := by decide +kernel
theorem dX12_sold_47 : decode cX12_sold 47 = .ok (.iload_n 3, 1) := by decide +kernel
theorem dX12_sold_48 : decode cX12_sold 48 = .ok (.iaload, 1) := by decide +kernel
theorem dX12_sold_49 : decode cX12_sold 49 = .ok (.goto 4, 3) := by decide +kernel
theorem dX12_sold_52 : decode cX12_sold 52 = .ok (.iconst 1, 1) := by decide +kernel
theorem dX12_sold_53 : decode cX12_sold 53 = .ok (.iadd, 1) := by decide +kernel
theorem dX12_sold_54 : decode cX12_sold 54 = .ok (.istore_n 2, 1) := by decide +kernel
theorem dX12_sold_55 : decode cX12_sold 55 = .ok (.iinc 3 1, 3) := by decide +kernel
theorem dX12_sold_58 : decode cX12_sold 58 = .ok (.goto (-54), 3) := by decide +kernel
theorem dX12_sold_61 : decode cX12_sold 61 = .ok (.iload_n 2, 1) := by decide +kernel
theorem dX12_sold_62 : decode cX12_sold 62 = .ok (.ireturn, 1) := by decide +kernel
set_option maxRecDepth 20000 in
theorem ggX12_discountShare_X12_sold : GoodIn wsX12_discountShare wsX12_sold := goodIn_ca (goodIn_r _ [6, 7, 8, 9, 10, 11, 12, 5, 13, 14, 15, 16, 17, 18, 19, 20, 21, 22, 23, 24, 25, 26, 27, 28, 29, 30, 31, 32, 33, 34, 35, 36, 37, 38, 39, 40, 41, 42, 43, 44, 45, 46, 47, 48, 49, 50, 51, 52, 53, 54] (by decide +kernel) (by decide +kernel)) (goodIn_sub (fun _ h => List.mem_cons_of_mem _ (List.mem_append_right _ h)) (by decide +kernel))
set_option maxRecDepth 20000 in
theorem gX12_discountShare_X12_sold : GoodIn wsX12_discountShare (wsV RX12 242 RX12 yX12_sold wsX12_sold) := goodIn_app (goodIn_of _ (by decide +kernel)) ggX12_discountShare_X12_sold
theorem dX12_discountShare_0 : decode cX12_discountShare 0 = .ok (.aload_n 0, 1) := by decide +kernel
theorem dX12_discountShare_1 : decode cX12_discountShare 1 = .ok (.aload_n 0, 1) := by decide +kernel
theorem dX12_discountShare_2 : decode cX12_discountShare 2 = .ok (.iconst 2, 1) := by decide +kernel
theorem dX12_discountShare_3 : decode cX12_discountShare 3 = .ok (.invokevirtual 242, 3) := by decide +kernel
theorem dX12_discountShare_6 : decode cX12_discountShare 6 = .ok (.ifCond .ne 7, 3) := by decide +kernel
theorem dX12_discountShare_9 : decode cX12_discountShare 9 = .ok (.iconst 1, 1) := by decide +kernel
theorem dX12_discountShare_10 : decode cX12_discountShare 10 = .ok (.goto 4, 3) := by decide +kernel
theorem dX12_discountShare_13 : decode cX12_discountShare 13 = .ok (.iconst 0, 1) := by decide +kernel
theorem dX12_discountShare_14 : decode cX12_discountShare 14 = .ok (.putfield 89, 3) := by decide +kernel
theorem dX12_discountShare_17 : decode cX12_discountShare 17 = .ok (.aload_n 0, 1) := by decide +kernel
theorem dX12_discountShare_18 : decode cX12_discountShare 18 = .ok (.getfield 89, 3) := by decide +kernel
theorem dX12_discountShare_21 : decode cX12_discountShare 21 = .ok (.ifCond .le 7, 3) := by decide +kernel
theorem dX12_discountShare_24 : decode cX12_discountShare 24 = .ok (.fconst 0, 1) := by decide +kernel
theorem dX12_discountShare_25 : decode cX12_discountShare 25 = .ok (.goto 22, 3) := by decide +kernel
theorem dX12_discountShare_28 : decode cX12_discountShare 28 = .ok (.aload_n 0, 1) := by decide +kernel
theorem dX12_discountShare_29 : decode cX12_discountShare 29 = .ok (.iconst 0, 1) := by decide +kernel
theorem dX12_discountShare_30 : decode cX12_discountShare 30 = .ok (.invokevirtual 242, 3) := by decide +kernel
theorem dX12_discountShare_33 : decode cX12_discountShare 33 = .ok (.aload_n 0, 1) := by decide +kernel
theorem dX12_discountShare_34 : decode cX12_discountShare 34 = .ok (.iconst 1, 1) := by decide +kernel
theorem dX12_discountShare_35 : decode cX12_discountShare 35 = .ok (.invokevirtual 242, 3) := by decide +kernel
theorem dX12_discountShare_38 : decode cX12_discountShare 38 = .ok (.isub, 1) := by decide +kernel
theorem dX12_discountShare_39 : decode cX12_discountShare 39 = .ok (.i2f, 1) := by decide +kernel
theorem dX12_discountShare_40 : decode cX12_discountShare 40 = .ok (.aload_n 0, 1) := by decide +kernel
theorem dX12_discountShare_41 : decode cX12_discountShare 41 = .ok (.iconst 0, 1) := by decide +kernel
theorem dX12_discountShare_42 : decode cX12_discountShare 42 = .ok (.invokevirtual 242, 3) := by decide +kernel
theorem dX12_discountShare_45 : decode cX12_discountShare 45 = .ok (.i2f, 1) := by decide +kernel
theorem dX12_discountShare_46 : decode cX12_discountShare 46 = .ok (.fdiv, 1) := by decide +kernel
theorem dX12_discountShare_47 : decode cX12_discountShare 47 = .ok (.freturn, 1) := by decide +kernel
set_option maxRecDepth 20000 in
theorem ggX12_meanNetPrice_X12_sold : GoodIn wsX12_meanNetPrice wsX12_sold := goodIn_ca (goodIn_r _ [6, 7, 8, 9, 10, 11, 12, 5, 13, 14, 15, 16, 17, 18, 19, 20, 21, 22, 23, 24, 25, 26, 27, 28, 29, 30, 31, 32, 33, 34, 35, 36, 37, 38, 39, 40, 41, 42, 43, 44, 45, 46, 47, 48, 49, 50, 51, 52, 53, 54] (by decide +kernel) (by decide +kernel)) (goodIn_sub (fun _ h => List.mem_cons_of_mem _ (List.mem_append_right _ h)) (by decide +kernel))
set_option maxRecDepth 20000 in
theorem gX12_meanNetPrice_X12_sold : GoodIn wsX12_meanNetPrice (wsV RX12 242 RX12 yX12_sold wsX12_sold) := goodIn_app (goodIn_of _ (by decide +kernel)) ggX12_meanNetPrice_X12_sold
theorem dX12_meanNetPrice_0 : decode cX12_meanNetPrice 0 = .ok (.aload_n 0, 1) := by decide +kernel
theorem dX12_meanNetPrice_1 : decode cX12_meanNetPrice 1 = .ok (.aload_n 0, 1) := by decide +kernel
theorem dX12_meanNetPrice_2 : decode cX12_meanNetPrice 2 = .ok (.iconst 2, 1) := by decide +kernel
theorem dX12_meanNetPrice_3 : decode cX12_meanNetPrice 3 = .ok (.invokevirtual 242, 3) := by decide +kernel
theorem dX12_meanNetPrice_6 : decode cX12_meanNetPrice 6 = .ok (.ifCond .ne 7, 3) := by decide +kernel
theorem dX12_meanNetPrice_9 : decode cX12_meanNetPrice 9 = .ok (.iconst 1, 1) := by decide +kernel
theorem dX12_meanNetPrice_10 : decode cX12_meanNetPrice 10 = .ok (.goto 4, 3) := by decide +kernel
theorem dX12_meanNetPrice_13 : decode cX12_meanNetPrice 13 = .ok (.iconst 0, 1) := by decide +kernel
theorem dX12_meanNetPrice_14 : decode cX12_meanNetPrice 14 = .ok (.putfield 89, 3) := by decide +kernel
theorem dX12_meanNetPrice_17 : decode cX12_meanNetPrice 17 = .ok (.aload_n 0, 1) := by decide +kernel
theorem dX12_meanNetPrice_18 : decode cX12_meanNetPrice 18 = .ok (.getfield 89, 3) := by decide +kernel
theorem dX12_meanNetPrice_21 : decode cX12_meanNetPrice 21 = .ok (.ifCond .le 7, 3) := by decide +kernel
theorem dX12_meanNetPrice_24 : decode cX12_meanNetPrice 24 = .ok (.dconst 0, 1) := by decide +kernel
theorem dX12_meanNetPrice_25 : decode cX12_meanNetPrice 25 = .ok (.goto 16, 3) := by decide +kernel
theorem dX12_meanNetPrice_28 : decode cX12_meanNetPrice 28 = .ok (.aload_n 0, 1) := by decide +kernel
theorem dX12_meanNetPrice_29 : decode cX12_meanNetPrice 29 = .ok (.iconst 1, 1) := by decide +kernel
theorem dX12_meanNetPrice_30 : decode cX12_meanNetPrice 30 = .ok (.invokevirtual 242, 3) := by decide +kernel
theorem dX12_meanNetPrice_33 : decode cX12_meanNetPrice 33 = .ok (.i2d, 1) := by decide +kernel
theorem dX12_meanNetPrice_34 : decode cX12_meanNetPrice 34 = .ok (.aload_n 0, 1) := by decide +kernel
theorem dX12_meanNetPrice_35 : decode cX12_meanNetPrice 35 = .ok (.iconst 2, 1) := by decide +kernel
theorem dX12_meanNetPrice_36 : decode cX12_meanNetPrice 36 = .ok (.invokevirtual 242, 3) := by decide +kernel
theorem dX12_meanNetPrice_39 : decode cX12_meanNetPrice 39 = .ok (.i2d, 1) := by decide +kernel
theorem dX12_meanNetPrice_40 : decode cX12_meanNetPrice 40 = .ok (.ddiv, 1) := by decide +kernel
theorem dX12_meanNetPrice_41 : decode cX12_meanNetPrice 41 = .ok (.dreturn, 1) := by decide +kernel
theorem dJx00060_init_a7421_0 : decode cJx00060_init_a7421 0 = .ok (.aload_n 0, 1) := by decide +kernel
theorem dJx00060_init_a7421_1 : decode cJx00060_init_a7421 1 = .ok (.aload_n 1, 1) := by decide +kernel
theorem dJx00060_init_a7421_2 : decode cJx00060_init_a7421 2 = .ok (.invokespecial 7, 3) := by decide +kernel
theorem dJx00060_init_a7421_5 : decode cJx00060_init_a7421 5 = .ok (.return_, 1) := by decide +kernel
set_option maxRecDepth 20000 in
theorem ggL_put_X11_put : GoodIn wsL_put wsX11_put := goodIn_ca (goodIn_ca (goodIn_ca (goodIn_r _ [7, 8, 9, 10, 11, 12, 13, 14, 15, 6, 16, 17, 18, 19, 20, 21, 22, 23, 24, 25, 26, 27, 28, 29, 30, 31, 32, 33, 34, 35, 36, 37, 38, 39, 40, 41, 42, 43, 44] (by decide +kernel) (by decide +kernel)) (goodIn_sub (fun _ h => List.mem_cons_of_mem _ (List.mem_append_left _ (List.mem_append_right _ h))) (by decide +kernel))) (goodIn_sub (fun _ h => List.mem_cons_of_mem _ (List.mem_append_right _ h)) (by decide +kernel))) (goodIn_sub (fun _ h => List.mem_cons_of_mem _ (List.mem_append_left _ (List.mem_append_left _ (List.mem_append_right _ h)))) (by decide +kernel))
set_option maxRecDepth 20000 in
theorem gL_put_X11_put : GoodIn wsL_put (wsV RL 7 RX11 yX11_put wsX11_put) := goodIn_app (goodIn_of _ (by decide +kernel)) ggL_put_X11_put
theorem dL_put_0 : decode cL_put 0 = .ok (.aload_n 3, 1) := by decide +kernel
theorem dL_put_1 : decode cL_put 1 = .ok (.iconst 0, 1) := by decide +kernel
theorem dL_put_2 : decode cL_put 2 = .ok (.aload_n 0, 1) := by decide +kernel
theorem dL_put_3 : decode cL_put 3 = .ok (.iload_n 1, 1) := by decide +kernel
theorem dL_put_4 : decode cL_put 4 = .ok (.iload_n 2, 1) := by decide +kernel
theorem dL_put_5 : decode cL_put 5 = .ok (.invokevirtual 7, 3) := by decide +kernel
theorem dL_put_8 : decode cL_put 8 = .ok (.i2l, 1) := by decide +kernel
theorem dL_put_9 : decode cL_put 9 = .ok (.lastore, 1) := by decide +kernel
theorem dL_put_10 : decode cL_put 10 = .ok (.goto 11, 3) := by decide +kernel
theorem dL_put_13 : decode cL_put 13 = .ok (.astore 4, 2) := by decide +kernel
theorem dL_put_15 : decode cL_put 15 = .ok (.iconst 1, 1) := by decide +kernel
theorem dL_put_16 : decode cL_put 16 = .ok (.ireturn, 1) := by decide +kernel
theorem dL_put_17 : decode cL_put 17 = .ok (.astore 4, 2) := by decide +kernel
theorem dL_put_19 : decode cL_put 19 = .ok (.iconst 2, 1) := by decide +kernel
theorem dL_put_20 : decode cL_put 20 = .ok (.ireturn, 1) := by decide +kernel
theorem dL_put_21 : decode cL_put 21 = .ok (.iconst 0, 1) := by decide +kernel
theorem dL_put_22 : decode cL_put 22 = .ok (.ireturn, 1) := by decide +kernel
set_option maxRecDepth 20000 in
theorem ggL_takeOut_X11_takeOut : GoodIn wsL_takeOut wsX11_takeOut := goodIn_ca (goodIn_ca (goodIn_r _ [6, 7, 8, 9, 10, 11, 12, 13, 14, 15, 16, 17, 18, 5, 19, 20, 21, 22, 23, 24, 25, 26, 27, 28, 29, 30, 31, 32, 33, 34, 35, 36, 37, 38, 39, 40, 41, 42, 43] (by decide +kernel) (by decide +kernel)) (goodIn_sub (fun _ h => List.mem_cons_of_mem _ (List.mem_append_right _ h)) (by decide +kernel))) (goodIn_sub (fun _ h => List.mem_cons_of_mem _ (List.mem_append_left _ (List.mem_append_right _ h))) (by decide +kernel))
set_option maxRecDepth 20000 in
theorem gL_takeOut_X11_takeOut : GoodIn wsL_takeOut (wsV RL 17 RX11 yX11_takeOut wsX11_takeOut) := goodIn_app (goodIn_of _ (by decide +kernel)) ggL_takeOut_X11_takeOut
theorem dL_takeOut_0 : decode cL_takeOut 0 = .ok (.aload_n 2, 1) := by decide +kernel
theorem dL_takeOut_1 : decode cL_takeOut 1 = .ok (.iconst 0, 1) := by decide +kernel
theorem dL_takeOut_2 : decode cL_takeOut 2 = .ok (.aload_n 0, 1) := by decide +kernel
theorem dL_takeOut_3 : decode cL_takeOut 3 = .ok (.iload_n 1, 1) := by decide +kernel
theorem dL_takeOut_4 : decode cL_takeOut 4 = .ok (.invokevirtual 17, 3) := by decide +kernel
theorem dL_takeOut_7 : decode cL_takeOut 7 = .ok (.i2l, 1) := by decide +kernel
theorem dL_takeOut_8 : decode cL_takeOut 8 = .ok (.lastore, 1) := by decide +kernel
theorem dL_takeOut_9 : decode cL_takeOut 9 = .ok (.goto 6, 3) := by decide +kernel
theorem dL_takeOut_12 : decode cL_takeOut 12 = .ok (.astore_n 3, 1) := by decide +kernel
theorem dL_takeOut_13 : decode cL_takeOut 13 = .ok (.iconst 1, 1) := by decide +kernel
theorem dL_takeOut_14 : decode cL_takeOut 14 = .ok (.ireturn, 1) := by decide +kernel
theorem dL_takeOut_15 : decode cL_takeOut 15 = .ok (.iconst 0, 1) := by decide +kernel
theorem dL_takeOut_16 : decode cL_takeOut 16 = .ok (.ireturn, 1) := by decide +kernel
set_option maxRecDepth 20000 in
theorem ggL_setCustomer_X11_setCustomer : GoodIn wsL_setCustomer wsX11_setCustomer := goodIn_ca (goodIn_r _ [6, 7, 8, 9, 10, 11, 12, 5, 13, 14, 15, 16, 17, 18, 19, 20] (by decide +kernel) (by decide +kernel)) (goodIn_sub (fun _ h => List.mem_cons_of_mem _ (List.mem_append_right _ h)) (by decide +kernel))
set_option maxRecDepth 20000 in
theorem gL_setCustomer_X11_setCustomer : GoodIn wsL_setCustomer (wsV RL 23 RX11 yX11_setCustomer wsX11_setCustomer) := goodIn_app (goodIn_of _ (by decide +kernel)) ggL_setCustomer_X11_setCustomer
theorem dL_setCustomer_0 : decode cL_setCustomer 0 = .ok (.aload_n 2, 1) := by decide +kernel
theorem dL_setCustomer_1 : decode cL_setCustomer 1 = .ok (.iconst 0, 1) := by decide +kernel
theorem dL_setCustomer_2 : decode cL_setCustomer 2 = .ok (.aload_n 0, 1) := by decide +kernel
theorem dL_setCustomer_3 : decode cL_setCustomer 3 = .ok (.iload_n 1, 1) := by decide +kernel
theorem dL_setCustomer_4 : decode cL_setCustomer 4 = .ok (.invokevirtual 23, 3) := by decide +kernel
theorem dL_setCustomer_7 : decode cL_setCustomer 7 = .ok (.i2l, 1) := by decide +kernel
theorem dL_setCustomer_8 : decode cL_setCustomer 8 = .ok (.lastore, 1) := by decide +kernel
