set_option maxRecDepth 20000 in
theorem gX12_netPrice_X12_finds : GoodIn wsX12_netPrice (wsV RX12 211 RX12 yX12_finds wsX12_finds) := goodIn_app (goodIn_of _ (by decide +kernel)) ggX12_netPrice_X12_finds
theorem dX12_netPrice_0 : decode cX12_netPrice 0 = .ok (.aload_n 0, 1) := by decide +kernel
theorem dX12_netPrice_1 : decode cX12_netPrice 1 = .ok (.aload_n 0, 1) := by decide +kernel
theorem dX12_netPrice_2 : decode cX12_netPrice 2 = .ok (.iload_n 1, 1) := by decide +kernel
theorem dX12_netPrice_3 : decode cX12_netPrice 3 = .ok (.invokevirtual 110, 3) := by decide +kernel
theorem dX12_netPrice_6 : decode cX12_netPrice 6 = .ok (.ifCond .eq 7, 3) := by decide +kernel
theorem dX12_netPrice_9 : decode cX12_netPrice 9 = .ok (.iconst 0, 1) := by decide +kernel
theorem dX12_netPrice_10 : decode cX12_netPrice 10 = .ok (.goto 4, 3) := by decide +kernel
theorem dX12_netPrice_13 : decode cX12_netPrice 13 = .ok (.iconst 1, 1) := by decide +kernel
theorem dX12_netPrice_14 : decode cX12_netPrice 14 = .ok (.putfield 89, 3) := by decide +kernel
theorem dX12_netPrice_17 : decode cX12_netPrice 17 = .ok (.aload_n 0, 1) := by decide +kernel
theorem dX12_netPrice_18 : decode cX12_netPrice 18 = .ok (.getfield 89, 3) := by decide +kernel
theorem dX12_netPrice_21 : decode cX12_netPrice 21 = .ok (.ifCond .le 5, 3) := by decide +kernel
theorem dX12_netPrice_24 : decode cX12_netPrice 24 = .ok (.iconst 0, 1) := by decide +kernel
theorem dX12_netPrice_25 : decode cX12_netPrice 25 = .ok (.ireturn, 1) := by decide +kernel
theorem dX12_netPrice_26 : decode cX12_netPrice 26 = .ok (.aload_n 0, 1) := by decide +kernel
theorem dX12_netPrice_27 : decode cX12_netPrice 27 = .ok (.invokevirtual 211, 3) := by decide +kernel
theorem dX12_netPrice_30 : decode cX12_netPrice 30 = .ok (.aload_n 0, 1) := by decide +kernel
theorem dX12_netPrice_31 : decode cX12_netPrice 31 = .ok (.getfield 16, 3) := by decide +kernel
theorem dX12_netPrice_34 : decode cX12_netPrice 34 = .ok (.iload_n 1, 1) := by decide +kernel
theorem dX12_netPrice_35 : decode cX12_netPrice 35 = .ok (.iaload, 1) := by decide +kernel
theorem dX12_netPrice_36 : decode cX12_netPrice 36 = .ok (.ireturn, 1) := by decide +kernel
set_option maxRecDepth 20000 in
theorem ggX12_pays_X12_finds : GoodIn wsX12_pays wsX12_finds := goodIn_ca (goodIn_ca (goodIn_r _ [8, 9, 10, 11, 12, 13, 14, 15, 16, 17, 7, 18, 1, 19, 3, 20, 21, 22, 23, 24, 25, 26, 27, 28, 29, 30, 31, 32, 33, 34, 35, 36, 37, 38, 39, 40, 41, 42, 43, 44, 45, 46, 47, 48, 49, 50, 51, 52, 53, 54, 55, 56, 57, 58, 59, 60, 61, 62, 63, 64, 65, 66, 67, 68, 69, 70, 71, 72, 73, 74, 75, 76, 77, 78, 79, 80, 81, 82, 83, 84, 85, 86, 87, 88, 89, 90, 91, 92, 93, 94, 95, 96, 97, 98, 99, 100, 101, 102, 103, 104, 105, 106, 107, 108, 109, 110, 111, 112, 113, 114, 115, 116, 117, 118, 119, 120, 121, 122, 123, 124, 125, 126, 127, 128, 2, 129, 130, 131, 132, 133, 134, 135, 136, 137, 138, 139, 140, 141, 142, 143, 144, 145, 146, 147, 148, 149, 150, 151, 152, 153, 154, 155, 156, 157, 158, 159, 160, 161, 162, 163, 164, 165] (by decide +kernel) (by decide +kernel)) (goodIn_sub (fun _ h => List.mem_cons_of_mem _ (List.mem_append_left _ (List.mem_append_right _ h))) (by decide +kernel))) (goodIn_sub (fun _ h => List.mem_cons_of_mem _ (List.mem_append_right _ h)) (by decide +kernel))
set_option maxRecDepth 20000 in
theorem gX12_pays_X12_finds : GoodIn wsX12_pays (wsV RX12 211 RX12 yX12_finds wsX12_finds) := goodIn_app (goodIn_of _ (by decide +kernel)) ggX12_pays_X12_finds
set_option maxRecDepth 20000 in
theorem ggX12_pays_X12_looks : GoodIn wsX12_pays wsX12_looks := goodIn_ca (goodIn_r _ [23, 1, 24, 25, 3, 129, 130, 131, 132, 133, 134, 135, 136, 137, 138, 139, 140, 141, 142, 143, 144, 145, 146, 147, 148, 149, 150, 151, 152, 153, 154, 155, 156, 157, 158, 159, 160, 161, 162, 163, 164, 165] (by decide +kernel) (by decide +kernel)) (goodIn_sub (fun _ h => List.mem_cons_of_mem _ (List.mem_append_left _ (List.mem_append_right _ h))) (by decide +kernel))
set_option maxRecDepth 20000 in
theorem gX12_pays_X12_looks : GoodIn wsX12_pays (wsV RX12 103 RX12 yX12_looks wsX12_looks) := goodIn_app (goodIn_of _ (by decide +kernel)) ggX12_pays_X12_looks
theorem dX12_pays_0 : decode cX12_pays 0 = .ok (.aload_n 0, 1) := by decide +kernel
theorem dX12_pays_1 : decode cX12_pays 1 = .ok (.invokevirtual 211, 3) := by decide +kernel
theorem dX12_pays_4 : decode cX12_pays 4 = .ok (.aload_n 0, 1) := by decide +kernel
theorem dX12_pays_5 : decode cX12_pays 5 = .ok (.invokevirtual 103, 3) := by decide +kernel
theorem dX12_pays_8 : decode cX12_pays 8 = .ok (.iconst 0, 1) := by decide +kernel
theorem dX12_pays_9 : decode cX12_pays 9 = .ok (.istore_n 1, 1) := by decide +kernel
theorem dX12_pays_10 : decode cX12_pays 10 = .ok (.iconst 0, 1) := by decide +kernel
theorem dX12_pays_11 : decode cX12_pays 11 = .ok (.istore_n 2, 1) := by decide +kernel
theorem dX12_pays_12 : decode cX12_pays 12 = .ok (.iload_n 2, 1) := by decide +kernel
theorem dX12_pays_13 : decode cX12_pays 13 = .ok (.aload_n 0, 1) := by decide +kernel
theorem dX12_pays_14 : decode cX12_pays 14 = .ok (.getfield 93, 3) := by decide +kernel
theorem dX12_pays_17 : decode cX12_pays 17 = .ok (.if_icmp .ge 23, 3) := by decide +kernel
theorem dX12_pays_20 : decode cX12_pays 20 = .ok (.iload_n 1, 1) := by decide +kernel
theorem dX12_pays_21 : decode cX12_pays 21 = .ok (.aload_n 0, 1) := by decide +kernel
theorem dX12_pays_22 : decode cX12_pays 22 = .ok (.getfield 16, 3) := by decide +kernel
theorem dX12_pays_25 : decode cX12_pays 25 = .ok (.aload_n 0, 1) := by decide +kernel
theorem dX12_pays_26 : decode cX12_pays 26 = .ok (.getfield 52, 3) := by decide +kernel
theorem dX12_pays_29 : decode cX12_pays 29 = .ok (.iload_n 2, 1) := by decide +kernel
theorem dX12_pays_30 : decode cX12_pays 30 = .ok (.iaload, 1) := by decide +kernel
theorem dX12_pays_31 : decode cX12_pays 31 = .ok (.iaload, 1) := by decide +kernel
theorem dX12_pays_32 : decode cX12_pays 32 = .ok (.iadd, 1) := by decide +kernel
theorem dX12_pays_33 : decode cX12_pays 33 = .ok (.istore_n 1, 1) := by decide +kernel
theorem dX12_pays_34 : decode cX12_pays 34 = .ok (.iinc 2 1, 3) := by decide +kernel
theorem dX12_pays_37 : decode cX12_pays 37 = .ok (.goto (-25), 3) := by decide +kernel
theorem dX12_pays_40 : decode cX12_pays 40 = .ok (.iload_n 1, 1) := by decide +kernel
theorem dX12_pays_41 : decode cX12_pays 41 = .ok (.ireturn, 1) := by decide +kernel
set_option maxRecDepth 20000 in
theorem ggX12_toPay_X12_pays : GoodIn wsX12_toPay wsX12_pays := goodIn_ca (goodIn_ca (goodIn_r _ [6, 7, 8, 9, 10, 11, 12, 5, 13, 14, 15, 16, 17, 18, 19, 20, 21, 22, 23, 24, 25, 26, 27, 28, 29, 30, 31, 32, 33, 34, 35, 36, 37, 38, 39, 40, 41, 42, 43, 44, 45, 46, 47, 48, 49, 50, 51, 52, 53, 54, 55, 56, 57, 58, 59, 60, 61, 62, 63, 64, 65, 66, 67, 68, 69, 70, 71, 72, 73, 74, 75, 76, 77, 78, 79, 80, 81, 82, 83, 84, 85, 86, 87, 88, 89, 90, 91, 92, 93, 94, 95, 96, 97, 98, 99, 100, 101, 102, 103, 104, 105, 106, 107, 108, 109, 110, 111, 112, 113, 114, 115, 116, 117, 118, 119, 120, 121, 122, 123, 124, 125, 126, 127, 128, 129, 130, 131, 132, 133, 134, 135, 136, 137, 138, 139, 140, 141, 142, 143, 144, 145, 146, 147, 148, 149, 150, 151, 152, 153, 154, 155, 156, 157, 158, 159, 160, 161, 162, 163, 164, 165, 166, 167, 168, 169, 170] (by decide +kernel) (by decide +kernel)) (goodIn_sub (fun _ h => List.mem_cons_of_mem _ (List.mem_append_left _ (List.mem_append_right _ h))) (by decide +kernel))) (goodIn_sub (fun _ h => List.mem_cons_of_mem _ (List.mem_append_right _ h)) (by decide +kernel))
set_option maxRecDepth 20000 in
theorem gX12_toPay_X12_pays : GoodIn wsX12_toPay (wsV RX12 229 RX12 yX12_pays wsX12_pays) := goodIn_app (goodIn_of _ (by decide +kernel)) ggX12_toPay_X12_pays
theorem dX12_toPay_0 : decode cX12_toPay 0 = .ok (.aload_n 0, 1) := by decide +kernel
theorem dX12_toPay_1 : decode cX12_toPay 1 = .ok (.iconst 0, 1) := by decide +kernel
theorem dX12_toPay_2 : decode cX12_toPay 2 = .ok (.putfield 89, 3) := by decide +kernel
theorem dX12_toPay_5 : decode cX12_toPay 5 = .ok (.aload_n 0, 1) := by decide +kernel
theorem dX12_toPay_6 : decode cX12_toPay 6 = .ok (.invokevirtual 229, 3) := by decide +kernel
theorem dX12_toPay_9 : decode cX12_toPay 9 = .ok (.ireturn, 1) := by decide +kernel
set_option maxRecDepth 20000 in
theorem ggX12_sell_X12_looks : GoodIn wsX12_sell wsX12_looks := goodIn_ca (goodIn_r _ [16, 1, 17, 7, 8, 141, 142, 143, 144, 145, 146, 147, 148, 149, 150, 151, 152, 153, 154, 155, 156, 157, 158, 159, 160, 161, 162, 163, 164, 165, 166, 167, 168, 169, 170, 171, 172, 173, 174, 175, 176, 177] (by decide +kernel) (by decide +kernel)) (goodIn_sub (fun _ h => List.mem_cons_of_mem _ (List.mem_append_left _ (List.mem_append_right _ h))) (by decide +kernel))
set_option maxRecDepth 20000 in
theorem gX12_sell_X12_looks : GoodIn wsX12_sell (wsV RX12 103 RX12 yX12_looks wsX12_looks) := goodIn_app (goodIn_of _ (by decide +kernel)) ggX12_sell_X12_looks
set_option maxRecDepth 20000 in
theorem ggX12_sell_X12_pays : GoodIn wsX12_sell wsX12_pays := goodIn_ca (goodIn_ca (goodIn_r _ [21, 1, 22, 8, 23, 24, 25, 15, 26, 11, 3, 27, 28, 29, 30, 31, 32, 33, 34, 35, 12, 13, 14, 16, 17, 7, 36, 37, 38, 39, 40, 41, 42, 43, 44, 45, 46, 47, 48, 49, 50, 4, 5, 51, 52, 53, 54, 55, 56, 57, 58, 59, 60, 61, 62, 63, 64, 65, 66, 67, 68, 69, 70, 71, 72, 73, 74, 75, 76, 77, 78, 79, 80, 81, 82, 83, 84, 85, 86, 87, 88, 89, 90, 91, 92, 93, 94, 95, 96, 97, 98, 99, 100, 101, 102, 103, 104, 105, 106, 107, 108, 109, 110, 111, 112, 113, 114, 115, 116, 117, 118, 119, 120, 121, 122, 123, 124, 125, 126, 127, 128, 129, 130, 131, 132, 133, 134, 135, 136, 141, 142, 143, 144, 145, 146, 147, 148, 149, 150, 151, 152, 153, 154, 155, 156, 157, 158, 159, 160, 161, 162, 163, 164, 165, 166, 167, 168, 169, 170, 171, 172, 173, 174, 175, 176, 177] (by decide +kernel) (by decide +kernel)) (goodIn_sub (fun _ h => List.mem_cons_of_mem _ (List.mem_append_left _ (List.mem_append_right _ h))) (by decide +kernel))) (goodIn_sub (fun _ h => List.mem_cons_of_mem _ (List.mem_append_right _ h)) (by decide +kernel))
set_option maxRecDepth 20000 in
theorem gX12_sell_X12_pays : GoodIn wsX12_sell (wsV RX12 229 RX12 yX12_pays wsX12_pays) := goodIn_app (goodIn_of _ (by decide +kernel)) ggX12_sell_X12_pays
set_option maxRecDepth 20000 in
theorem ggX12_sell_X12_usesOf : GoodIn wsX12_sell wsX12_usesOf := goodIn_ca (goodIn_r _ [140, 41, 112, 102, 141, 142, 143, 144, 145, 146, 147, 148, 149, 150, 151, 152, 153, 154, 155, 156, 157, 158, 159, 160, 161, 162, 163, 164, 165, 166, 167, 168, 169, 170, 171, 172, 173, 174, 175, 176, 177] (by decide +kernel) (by decide +kernel)) (goodIn_sub (fun _ h => List.mem_cons_of_mem _ (List.mem_append_left _ (List.mem_append_right _ h))) (by decide +kernel))
set_option maxRecDepth 20000 in
theorem gX12_sell_X12_usesOf : GoodIn wsX12_sell (wsV RX12 223 RX12 yX12_usesOf wsX12_usesOf) := goodIn_app (goodIn_of _ (by decide +kernel)) ggX12_sell_X12_usesOf
theorem dX12_sell_0 : decode cX12_sell 0 = .ok (.aload_n 0, 1) := by decide +kernel
theorem dX12_sell_1 : decode cX12_sell 1 = .ok (.invokevirtual 103, 3) := by decide +kernel
theorem dX12_sell_4 : decode cX12_sell 4 = .ok (.aload_n 0, 1) := by decide +kernel
theorem dX12_sell_5 : decode cX12_sell 5 = .ok (.aload_n 0, 1) := by decide +kernel
theorem dX12_sell_6 : decode cX12_sell 6 = .ok (.getfield 93, 3) := by decide +kernel
theorem dX12_sell_9 : decode cX12_sell 9 = .ok (.ifCond .ne 7, 3) := by decide +kernel
theorem dX12_sell_12 : decode cX12_sell 12 = .ok (.iconst 1, 1) := by decide +kernel
theorem dX12_sell_13 : decode cX12_sell 13 = .ok (.goto 4, 3) := by decide +kernel
theorem dX12_sell_16 : decode cX12_sell 16 = .ok (.iconst 0, 1) := by decide +kernel
theorem dX12_sell_17 : decode cX12_sell 17 = .ok (.putfield 89, 3) := by decide +kernel
theorem dX12_sell_20 : decode cX12_sell 20 = .ok (.aload_n 0, 1) := by decide +kernel
theorem dX12_sell_21 : decode cX12_sell 21 = .ok (.getfield 89, 3) := by decide +kernel
theorem dX12_sell_24 : decode cX12_sell 24 = .ok (.ifCond .le 5, 3) := by decide +kernel
theorem dX12_sell_27 : decode cX12_sell 27 = .ok (.iconst 0, 1) := by decide +kernel
theorem dX12_sell_28 : decode cX12_sell 28 = .ok (.ireturn, 1) := by decide +kernel
theorem dX12_sell_29 : decode cX12_sell 29 = .ok (.aload_n 0, 1) := by decide +kernel
theorem dX12_sell_30 : decode cX12_sell 30 = .ok (.invokevirtual 229, 3) := by decide +kernel
theorem dX12_sell_33 : decode cX12_sell 33 = .ok (.istore_n 1, 1) := by decide +kernel
theorem dX12_sell_34 : decode cX12_sell 34 = .ok (.iconst 0, 1) := by decide +kernel
theorem dX12_sell_35 : decode cX12_sell 35 = .ok (.istore_n 2, 1) := by decide +kernel
theorem dX12_sell_36 : decode cX12_sell 36 = .ok (.iload_n 2, 1) := by decide +kernel
theorem dX12_sell_37 : decode cX12_sell 37 = .ok (.aload_n 0, 1) := by decide +kernel
theorem dX12_sell_38 : decode cX12_sell 38 = .ok (.getfield 121, 3) := by decide +kernel
theorem dX12_sell_41 : decode cX12_sell 41 = .ok (.if_icmp .ge 42, 3) := by decide +kernel
theorem dX12_sell_44 : decode cX12_sell 44 = .ok (.aload_n 0, 1) := by decide +kernel
theorem dX12_sell_45 : decode cX12_sell 45 = .ok (.getfield 49, 3) := by decide +kernel
theorem dX12_sell_48 : decode cX12_sell 48 = .ok (.aload_n 0, 1) := by decide +kernel
theorem dX12_sell_49 : decode cX12_sell 49 = .ok (.getfield 114, 3) := by decide +kernel
theorem dX12_sell_52 : decode cX12_sell 52 = .ok (.aaload, 1) := by decide +kernel
theorem dX12_sell_53 : decode cX12_sell 53 = .ok (.iload_n 2, 1) := by decide +kernel
theorem dX12_sell_54 : decode cX12_sell 54 = .ok (.dup2, 1) := by decide +kernel
theorem dX12_sell_55 : decode cX12_sell 55 = .ok (.iaload, 1) := by decide +kernel
theorem dX12_sell_56 : decode cX12_sell 56 = .ok (.aload_n 0, 1) := by decide +kernel
theorem dX12_sell_57 : decode cX12_sell 57 = .ok (.iload_n 2, 1) := by decide +kernel
theorem dX12_sell_58 : decode cX12_sell 58 = .ok (.invokevirtual 223, 3) := by decide +kernel
theorem dX12_sell_61 : decode cX12_sell 61 = .ok (.iadd, 1) := by decide +kernel
theorem dX12_sell_62 : decode cX12_sell 62 = .ok (.iastore, 1) := by decide +kernel
theorem dX12_sell_63 : decode cX12_sell 63 = .ok (.aload_n 0, 1) := by decide +kernel
theorem dX12_sell_64 : decode cX12_sell 64 = .ok (.dup, 1) := by decide +kernel
theorem dX12_sell_65 : decode cX12_sell 65 = .ok (.getfield 232, 3) := by decide +kernel
theorem dX12_sell_68 : decode cX12_sell 68 = .ok (.aload_n 0, 1) := by decide +kernel
theorem dX12_sell_69 : decode cX12_sell 69 = .ok (.iload_n 2, 1) := by decide +kernel
theorem dX12_sell_70 : decode cX12_sell 70 = .ok (.invokevirtual 223, 3) := by decide +kernel
theorem dX12_sell_73 : decode cX12_sell 73 = .ok (.iadd, 1) := by decide +kernel
theorem dX12_sell_74 : decode cX12_sell 74 = .ok (.putfield 232, 3) := by decide +kernel
theorem dX12_sell_77 : decode cX12_sell 77 = .ok (.iinc 2 1, 3) := by decide +kernel
theorem dX12_sell_80 : decode cX12_sell 80 = .ok (.goto (-44), 3) := by decide +kernel
theorem dX12_sell_83 : decode cX12_sell 83 = .ok (.iconst 0, 1) := by decide +kernel
theorem dX12_sell_84 : decode cX12_sell 84 = .ok (.istore_n 2, 1) := by decide +kernel
theorem dX12_sell_85 : decode cX12_sell 85 = .ok (.iload_n 2, 1) := by decide +kernel
theorem dX12_sell_86 : decode cX12_sell 86 = .ok (.aload_n 0, 1) := by decide +kernel
theorem dX12_sell_87 : decode cX12_sell 87 = .ok (.getfield 93, 3) := by decide +kernel
theorem dX12_sell_90 : decode cX12_sell 90 = .ok (.if_icmp .ge 37, 3) := by decide +kernel
theorem dX12_sell_93 : decode cX12_sell 93 = .ok (.aload_n 0, 1) := by decide +kernel
theorem dX12_sell_94 : decode cX12_sell 94 = .ok (.getfield 22, 3) := by decide +kernel
theorem dX12_sell_97 : decode cX12_sell 97 = .ok (.aload_n 0, 1) := by decide +kernel
theorem dX12_sell_98 : decode cX12_sell 98 = .ok (.getfield 52, 3) := by decide +kernel
theorem dX12_sell_101 : decode cX12_sell 101 = .ok (.iload_n 2, 1) := by decide +kernel
theorem dX12_sell_102 : decode cX12_sell 102 = .ok (.iaload, 1) := by decide +kernel
theorem dX12_sell_103 : decode cX12_sell 103 = .ok (.bipush 115, 2) := by decide +kernel
theorem dX12_sell_105 : decode cX12_sell 105 = .ok (.castore, 1) := by decide +kernel
theorem dX12_sell_106 : decode cX12_sell 106 = .ok (.aload_n 0, 1) := by decide +kernel
theorem dX12_sell_107 : decode cX12_sell 107 = .ok (.getfield 19, 3) := by decide +kernel
theorem dX12_sell_110 : decode cX12_sell 110 = .ok (.aload_n 0, 1) := by decide +kernel
theorem dX12_sell_111 : decode cX12_sell 111 = .ok (.getfield 52, 3) := by decide +kernel
theorem dX12_sell_114 : decode cX12_sell 114 = .ok (.iload_n 2, 1) := by decide +kernel
theorem dX12_sell_115 : decode cX12_sell 115 = .ok (.iaload, 1) := by decide +kernel
theorem dX12_sell_116 : decode cX12_sell 116 = .ok (.aload_n 0, 1) := by decide +kernel
theorem dX12_sell_117 : decode cX12_sell 117 = .ok (.getfield 114, 3) := by decide +kernel
theorem dX12_sell_120 : decode cX12_sell 120 = .ok (.iastore, 1) := by decide +kernel
theorem dX12_sell_121 : decode cX12_sell 121 = .ok (.iinc 2 1, 3) := by decide +kernel
theorem dX12_sell_124 : decode cX12_sell 124 = .ok (.goto (-39), 3) := by decide +kernel
theorem dX12_sell_127 : decode cX12_sell 127 = .ok (.aload_n 0, 1) := by decide +kernel
theorem dX12_sell_128 : decode cX12_sell 128 = .ok (.dup, 1) := by decide +kernel
theorem dX12_sell_129 : decode cX12_sell 129 = .ok (.getfield 235, 3) := by decide +kernel
theorem dX12_sell_132 : decode cX12_sell 132 = .ok (.iload_n 1, 1) := by decide +kernel
theorem dX12_sell_133 : decode cX12_sell 133 = .ok (.i2l, 1) := by decide +kernel
theorem dX12_sell_134 : decode cX12_sell 134 = .ok (.ladd, 1) := by decide +kernel
theorem dX12_sell_135 : decode cX12_sell 135 = .ok (.putfield 235, 3) := by decide +kernel
theorem dX12_sell_138 : decode cX12_sell 138 = .ok (.aload_n 0, 1) := by decide +kernel
theorem dX12_sell_139 : decode cX12_sell 139 = .ok (.iconst 0, 1) := by decide +kernel
theorem dX12_sell_140 : decode cX12_sell 140 = .ok (.putfield 106, 3) := by decide +kernel
theorem dX12_sell_143 : decode cX12_sell 143 = .ok (.iload_n 1, 1) := by decide +kernel
theorem dX12_sell_144 : decode cX12_sell 144 = .ok (.ireturn, 1) := by decide +kernel
set_option maxRecDepth 20000 in
theorem ggX12_isSold_X12_in : GoodIn wsX12_isSold wsX12_in := goodIn_r _ [6] (by decide +kernel) (by decide +kernel)
set_option maxRecDepth 20000 in
theorem gX12_isSold_X12_in : GoodIn wsX12_isSold (va_wsS RX12 99 yX12_in wsX12_in) := goodIn_app (goodIn_of _ (by decide +kernel)) ggX12_isSold_X12_in
theorem dX12_isSold_0 : decode cX12_isSold 0 = .ok (.iload_n 1, 1) := by decide +kernel
theorem dX12_isSold_1 : decode cX12_isSold 1 = .ok (.iconst 0, 1) := by decide +kernel
theorem dX12_isSold_2 : decode cX12_isSold 2 = .ok (.aload_n 0, 1) := by decide +kernel
theorem dX12_isSold_3 : decode cX12_isSold 3 = .ok (.getfield 96, 3) := by decide +kernel
theorem dX12_isSold_6 : decode cX12_isSold 6 = .ok (.iconst 1, 1) := by decide +kernel
theorem dX12_isSold_7 : decode cX12_isSold 7 = .ok (.isub, 1) := by decide +kernel
theorem dX12_isSold_8 : decode cX12_isSold 8 = .ok (.invokestatic 99, 3) := by decide +kernel
theorem dX12_isSold_11 : decode cX12_isSold 11 = .ok (.ifCond .eq 29, 3) := by decide +kernel
theorem dX12_isSold_14 : decode cX12_isSold 14 = .ok (.aload_n 0, 1) := by decide +kernel
theorem dX12_isSold_15 : decode cX12_isSold 15 = .ok (.getfield 22, 3) := by decide +kernel
theorem dX12_isSold_18 : decode cX12_isSold 18 = .ok (.iload_n 1, 1) := by decide +kernel
theorem dX12_isSold_19 : decode cX12_isSold 19 = .ok (.caload, 1) := by decide +kernel
theorem dX12_isSold_20 : decode cX12_isSold 20 = .ok (.bipush 115, 2) := by decide +kernel
theorem dX12_isSold_22 : decode cX12_isSold 22 = .ok (.if_icmp .eq 14, 3) := by decide +kernel
theorem dX12_isSold_25 : decode cX12_isSold 25 = .ok (.aload_n 0, 1) := by decide +kernel
theorem dX12_isSold_26 : decode cX12_isSold 26 = .ok (.getfield 22, 3) := by decide +kernel
theorem dX12_isSold_29 : decode cX12_isSold 29 = .ok (.iload_n 1, 1) := by decide +kernel
theorem dX12_isSold_30 : decode cX12_isSold 30 = .ok (.caload, 1) := by decide +kernel
theorem dX12_isSold_31 : decode cX12_isSold 31 = .ok (.bipush 114, 2) := by decide +kernel
theorem dX12_isSold_33 : decode cX12_isSold 33 = .ok (.if_icmp .ne 7, 3) := by decide +kernel
theorem dX12_isSold_36 : decode cX12_isSold 36 = .ok (.iconst 1, 1) := by decide +kernel
theorem dX12_isSold_37 : decode cX12_isSold 37 = .ok (.goto 4, 3) := by decide +kernel
theorem dX12_isSold_40 : decode cX12_isSold 40 = .ok (.iconst 0, 1) := by decide +kernel
theorem dX12_isSold_41 : decode cX12_isSold 41 = .ok (.ireturn, 1) := by decide +kernel
set_option maxRecDepth 20000 in
theorem ggX12_giveBack_X12_isSold : GoodIn wsX12_giveBack wsX12_isSold := goodIn_ca (goodIn_r _ [9, 10, 1, 11, 12, 8, 13, 14, 15, 16, 17, 18, 19, 20, 21, 22, 23, 24, 25, 26, 27, 28, 29, 30, 31, 32, 33, 34, 35, 36, 37, 38, 39, 40, 41, 42, 43, 44, 45, 46, 47, 48, 49, 50] (by decide +kernel) (by decide +kernel)) (goodIn_sub (fun _ h => List.mem_cons_of_mem _ (List.mem_append_right _ h)) (by decide +kernel))
set_option maxRecDepth 20000 in
theorem gX12_giveBack_X12_isSold : GoodIn wsX12_giveBack (wsV RX12 239 RX12 yX12_isSold wsX12_isSold) := goodIn_app (goodIn_of _ (by decide +kernel)) ggX12_giveBack_X12_isSold
theorem dX12_giveBack_0 : decode cX12_giveBack 0 = .ok (.aload_n 0, 1) := by decide +kernel
theorem dX12_giveBack_1 : decode cX12_giveBack 1 = .ok (.aload_n 0, 1) := by decide +kernel
theorem dX12_giveBack_2 : decode cX12_giveBack 2 = .ok (.iload_n 1, 1) := by decide +kernel
theorem dX12_giveBack_3 : decode cX12_giveBack 3 = .ok (.invokevirtual 239, 3) := by decide +kernel
theorem dX12_giveBack_6 : decode cX12_giveBack 6 = .ok (.ifCond .ne 7, 3) := by decide +kernel
theorem dX12_giveBack_9 : decode cX12_giveBack 9 = .ok (.iconst 1, 1) := by decide +kernel
theorem dX12_giveBack_10 : decode cX12_giveBack 10 = .ok (.goto 19, 3) := by decide +kernel
theorem dX12_giveBack_13 : decode cX12_giveBack 13 = .ok (.aload_n 0, 1) := by decide +kernel
theorem dX12_giveBack_14 : decode cX12_giveBack 14 = .ok (.getfield 22, 3) := by decide +kernel
theorem dX12_giveBack_17 : decode cX12_giveBack 17 = .ok (.iload_n 1, 1) := by decide +kernel
theorem dX12_giveBack_18 : decode cX12_giveBack 18 = .ok (.caload, 1) := by decide +kernel
theorem dX12_giveBack_19 : decode cX12_giveBack 19 = .ok (.bipush 114, 2) := by decide +kernel
theorem dX12_giveBack_21 : decode cX12_giveBack 21 = .ok (.if_icmp .ne 7, 3) := by decide +kernel
theorem dX12_giveBack_24 : decode cX12_giveBack 24 = .ok (.iconst 2, 1) := by decide +kernel
theorem dX12_giveBack_25 : decode cX12_giveBack 25 = .ok (.goto 4, 3) := by decide +kernel
theorem dX12_giveBack_28 : decode cX12_giveBack 28 = .ok (.iconst 0, 1) := by decide +kernel
theorem dX12_giveBack_29 : decode cX12_giveBack 29 = .ok (.putfield 89, 3) := by decide +kernel
theorem dX12_giveBack_32 : decode cX12_giveBack 32 = .ok (.aload_n 0, 1) := by decide +kernel
theorem dX12_giveBack_33 : decode cX12_giveBack 33 = .ok (.getfield 89, 3) := by decide +kernel
theorem dX12_giveBack_36 : decode cX12_giveBack 36 = .ok (.ifCond .le 5, 3) := by decide +kernel
theorem dX12_giveBack_39 : decode cX12_giveBack 39 = .ok (.iconst 0, 1) := by decide +kernel
theorem dX12_giveBack_40 : decode cX12_giveBack 40 = .ok (.ireturn, 1) := by decide +kernel
theorem dX12_giveBack_41 : decode cX12_giveBack 41 = .ok (.aload_n 0, 1) := by decide +kernel
theorem dX12_giveBack_42 : decode cX12_giveBack 42 = .ok (.getfield 22, 3) := by decide +kernel
theorem dX12_giveBack_45 : decode cX12_giveBack 45 = .ok (.iload_n 1, 1) := by decide +kernel
theorem dX12_giveBack_46 : decode cX12_giveBack 46 = .ok (.bipush 114, 2) := by decide +kernel
theorem dX12_giveBack_48 : decode cX12_giveBack 48 = .ok (.castore, 1) := by decide +kernel
theorem dX12_giveBack_49 : decode cX12_giveBack 49 = .ok (.aload_n 0, 1) := by decide +kernel
theorem dX12_giveBack_50 : decode cX12_giveBack 50 = .ok (.dup, 1) := by decide +kernel
theorem dX12_giveBack_51 : decode cX12_giveBack 51 = .ok (.getfield 235, 3) := by decide +kernel
theorem dX12_giveBack_54 : decode cX12_giveBack 54 = .ok (.aload_n 0, 1) := by decide +kernel
theorem dX12_giveBack_55 : decode cX12_giveBack 55 = .ok (.getfield 16, 3) := by decide +kernel
theorem dX12_giveBack_58 : decode cX12_giveBack 58 = .ok (.iload_n 1, 1) := by decide +kernel
theorem dX12_giveBack_59 : decode cX12_giveBack 59 = .ok (.iaload, 1) := by decide +kernel
theorem dX12_giveBack_60 : decode cX12_giveBack 60 = .ok (.i2l, 1) := by decide +kernel
theorem dX12_giveBack_61 : decode cX12_giveBack 61 = .ok (.lsub, 1) := by decide +kernel
theorem dX12_giveBack_62 : decode cX12_giveBack 62 = .ok (.putfield 235, 3) := by decide +kernel
theorem dX12_giveBack_65 : decode cX12_giveBack 65 = .ok (.aload_n 0, 1) := by decide +kernel
theorem dX12_giveBack_66 : decode cX12_giveBack 66 = .ok (.getfield 16, 3) := by decide +kernel
theorem dX12_giveBack_69 : decode cX12_giveBack 69 = .ok (.iload_n 1, 1) := by decide +kernel
theorem dX12_giveBack_70 : decode cX12_giveBack 70 = .ok (.iaload, 1) := by decide +kernel
theorem dX12_giveBack_71 : decode cX12_giveBack 71 = .ok (.ireturn, 1) := by decide +kernel
set_option maxRecDepth 20000 in
theorem ggX12_soldTo_X12_isSold : GoodIn wsX12_soldTo wsX12_isSold := goodIn_ca (goodIn_r _ [7, 8, 9, 10, 11, 6, 12, 13, 14, 15, 16, 17, 18, 19, 20, 21, 22, 23, 24, 25, 26, 27, 28, 29, 30, 31, 32, 33, 34, 35, 36, 37, 38, 39, 40, 41, 42, 43, 44, 45, 46, 47, 48, 49] (by decide +kernel) (by decide +kernel)) (goodIn_sub (fun _ h => List.mem_cons_of_mem _ (List.mem_append_right _ h)) (by decide +kernel))
set_option maxRecDepth 20000 in
theorem gX12_soldTo_X12_isSold : GoodIn wsX12_soldTo (wsV RX12 239 RX12 yX12_isSold wsX12_isSold) := goodIn_app (goodIn_of _ (by decide +kernel)) ggX12_soldTo_X12_isSold
theorem dX12_soldTo_0 : decode cX12_soldTo 0 = .ok (.aload_n 0, 1) := by decide +kernel
theorem dX12_soldTo_1 : decode cX12_soldTo 1 = .ok (.aload_n 0, 1) := by decide +kernel
theorem dX12_soldTo_2 : decode cX12_soldTo 2 = .ok (.iload_n 1, 1) := by decide +kernel
theorem dX12_soldTo_3 : decode cX12_soldTo 3 = .ok (.invokevirtual 239, 3) := by decide +kernel
theorem dX12_soldTo_6 : decode cX12_soldTo 6 = .ok (.ifCond .eq 7, 3) := by decide +kernel
theorem dX12_soldTo_9 : decode cX12_soldTo 9 = .ok (.iconst 0, 1) := by decide +kernel
theorem dX12_soldTo_10 : decode cX12_soldTo 10 = .ok (.goto 4, 3) := by decide +kernel
theorem dX12_soldTo_13 : decode cX12_soldTo 13 = .ok (.iconst 1, 1) := by decide +kernel
theorem dX12_soldTo_14 : decode cX12_soldTo 14 = .ok (.putfield 89, 3) := by decide +kernel
theorem dX12_soldTo_17 : decode cX12_soldTo 17 = .ok (.aload_n 0, 1) := by decide +kernel
theorem dX12_soldTo_18 : decode cX12_soldTo 18 = .ok (.getfield 89, 3) := by decide +kernel
theorem dX12_soldTo_21 : decode cX12_soldTo 21 = .ok (.ifCond .le 7, 3) := by decide +kernel
theorem dX12_soldTo_24 : decode cX12_soldTo 24 = .ok (.iconst 0, 1) := by decide +kernel
theorem dX12_soldTo_25 : decode cX12_soldTo 25 = .ok (.goto 9, 3) := by decide +kernel
theorem dX12_soldTo_28 : decode cX12_soldTo 28 = .ok (.aload_n 0, 1) := by decide +kernel
theorem dX12_soldTo_29 : decode cX12_soldTo 29 = .ok (.getfield 19, 3) := by decide +kernel
theorem dX12_soldTo_32 : decode cX12_soldTo 32 = .ok (.iload_n 1, 1) := by decide +kernel
theorem dX12_soldTo_33 : decode cX12_soldTo 33 = .ok (.iaload, 1) := by decide +kernel
theorem dX12_soldTo_34 : decode cX12_soldTo 34 = .ok (.ireturn, 1) := by decide +kernel
theorem dX12_usesInAll_0 : decode cX12_usesInAll 0 = .ok (.aload_n 0, 1) := by decide +kernel
theorem dX12_usesInAll_1 : decode cX12_usesInAll 1 = .ok (.iconst 0, 1) := by decide +kernel
theorem dX12_usesInAll_2 : decode cX12_usesInAll 2 = .ok (.putfield 89, 3) := by decide +kernel
theorem dX12_usesInAll_5 : decode cX12_usesInAll 5 = .ok (.aload_n 0, 1) := by decide +kernel
theorem dX12_usesInAll_6 : decode cX12_usesInAll 6 = .ok (.getfield 232, 3) := by decide +kernel
theorem dX12_usesInAll_9 : decode cX12_usesInAll 9 = .ok (.ireturn, 1) := by decide +kernel
theorem dX12_turnover_0 : decode cX12_turnover 0 = .ok (.aload_n 0, 1) := by decide +kernel
theorem dX12_turnover_1 : decode cX12_turnover 1 = .ok (.iconst 0, 1) := by decide +kernel
theorem dX12_turnover_2 : decode cX12_turnover 2 = .ok (.putfield 89, 3) := by decide +kernel
theorem dX12_turnover_5 : decode cX12_turnover 5 = .ok (.aload_n 0, 1) := by decide +kernel
theorem dX12_turnover_6 : decode cX12_turnover 6 = .ok (.getfield 235, 3) := by decide +kernel
theorem dX12_turnover_9 : decode cX12_turnover 9 = .ok (.lreturn, 1) := by decide +kernel
set_option maxRecDepth 20000 in
theorem ggX12_sold_X12_isSold : GoodIn wsX12_sold wsX12_isSold := goodIn_ca (goodIn_r _ [8, 1, 9, 10, 11, 7, 12, 13, 14, 15, 16, 17, 18, 19, 20, 21, 22, 23, 24, 25, 26, 27, 28, 29, 30, 31, 32, 33, 34, 35, 36, 37, 38, 39, 40, 41, 42, 43, 44, 45, 46, 47, 48, 49] (by decide +kernel) (by decide +kernel)) (goodIn_sub (fun _ h => List.mem_cons_of_mem _ (List.mem_append_right _ h)) (by decide +kernel))
set_option maxRecDepth 20000 in
theorem gX12_sold_X12_isSold : GoodIn wsX12_sold (wsV RX12 239 RX12 yX12_isSold wsX12_isSold) := goodIn_app (goodIn_of _ (by decide +kernel)) ggX12_sold_X12_isSold
theorem dX12_sold_0 : decode cX12_sold 0 = .ok (.iconst 0, 1) := by decide +kernel
theorem dX12_sold_1 : decode cX12_sold 1 = .ok (.istore_n 2, 1) := by decide +kernel
theorem dX12_sold_2 : decode cX12_sold 2 = .ok (.iconst 0, 1) := by decide +kernel
theorem dX12_sold_3 : decode cX12_sold 3 = .ok (.istore_n 3, 1) := by decide +kernel
theorem dX12_sold_4 : decode cX12_sold 4 = .ok (.iload_n 3, 1) := by decide +kernel
theorem dX12_sold_5 : decode cX12_sold 5 = .ok (.aload_n 0, 1) := by decide +kernel
theorem dX12_sold_6 : decode cX12_sold 6 = .ok (.getfield 96, 3) := by decide +kernel
theorem dX12_sold_9 : decode cX12_sold 9 = .ok (.if_icmp .ge 52, 3) := by decide +kernel
theorem dX12_sold_12 : decode cX12_sold 12 = .ok (.iload_n 2, 1) := by decide +kernel
theorem dX12_sold_13 : decode cX12_sold 13 = .ok (.aload_n 0, 1) := by decide +kernel
theorem dX12_sold_14 : decode cX12_sold 14 = .ok (.iload_n 3, 1) := by decide +kernel
theorem dX12_sold_15 : decode cX12_sold 15 = .ok (.invokevirtual 239, 3) := by decide +kernel
theorem dX12_sold_18 : decode cX12_sold 18 = .ok (.ifCond .ne 7, 3) := by decide +kernel
theorem dX12_sold_21 : decode cX12_sold 21 = .ok (.iconst 0, 1) := by decide +kernel
theorem dX12_sold_22 : decode cX12_sold 22 = .ok (.goto 31, 3) := by decide +kernel
theorem dX12_sold_25 : decode cX12_sold 25 = .ok (.iload_n 1, 1) := by decide +kernel
theorem dX12_sold_26 : decode cX12_sold 26 = .ok (.ifCond .ne 12, 3) := by decide +kernel
theorem dX12_sold_29 : decode cX12_sold 29 = .ok (.aload_n 0, 1) := by decide +kernel
theorem dX12_sold_30 : decode cX12_sold 30 = .ok (.getfield 13, 3) := by decide +kernel
theorem dX12_sold_33 : decode cX12_sold 33 = .ok (.iload_n 3, 1) := by decide +kernel
theorem dX12_sold_34 : decode cX12_sold 34 = .ok (.iaload, 1) := by decide +kernel
theorem dX12_sold_35 : decode cX12_sold 35 = .ok (.goto 18, 3) := by decide +kernel
theorem dX12_sold_38 : decode cX12_sold 38 = .ok (.iload_n 1, 1) := by decide +kernel
theorem dX12_sold_39 : decode cX12_sold 39 = .ok (.iconst 1, 1) := by decide +kernel
theorem dX12_sold_40 : decode cX12_sold 40 = .ok (.if_icmp .ne 12, 3) := by decide +kernel
theorem dX12_sold_43 : decode cX12_sold 43 = .ok (.aload_n 0, 1) := by decide +kernel
theorem dX12_sold_44 : decode cX12_sold 44 = .ok (.getfield 16, 3) := by decide +kernel
theorem dX12_sold_47 : decode cX12_sold 47 = .ok (.iload_n 3, 1) := by decide +kernel
theorem dX12_sold_48 : decode cX12_sold 48 = .ok (.iaload, 1) := by decide +kernel
theorem dX12_sold_49 : decode cX12_sold 49 = .ok (.goto 4, 3) := by decide +kernel
theorem dX12_sold_52 : decode cX12_sold 52 = .ok (.iconst 1, 1) := by decide +kernel
theorem dX12_sold_53 : decode cX12_sold 53 = .ok (.iadd, 1) := by decide +kernel
theorem dX12_sold_54 : decode cX12_sold 54 = .ok (.istore_n 2, 1) := by decide +kernel
theorem dX12_sold_55 : decode cX12_sold 55 = .ok (.iinc 3 1, 3) := by decide +kernel
theorem dX12_sold_58 : decode cX12_sold 58 = .ok (.goto (-54), 3) := by decide +kernel
theorem dX12_sold_61 : decode cX12_sold 61 = .ok (.iload_n 2, 1) := by decide +kernel
theorem dX12_sold_62 : decode cX12_sold 62 = .ok (.ireturn, 1) := by decide +kernel
set_option maxRecDepth 20000 in
theorem ggX12_discountShare_X12_sold : GoodIn wsX12_discountShare wsX12_sold := goodIn_ca (goodIn_r _ [6, 7, 8, 9, 10, 11, 12, 5, 13, 14, 15, 16, 17, 18, 19, 20, 21, 22, 23, 24, 25, 26, 27, 28, 29, 30, 31, 32, 33, 34, 35, 36, 37, 38, 39, 40, 41, 42, 43, 44, 45, 46, 47, 48, 49, 50, 51, 52, 53, 54] (by decide +kernel) (by decide +kernel)) (goodIn_sub (fun _ h => List.mem_cons_of_mem _ (List.mem_append_right _ h)) (by decide +kernel))
set_option maxRecDepth 20000 in
theorem gX12_discountShare_X12_sold : GoodIn wsX12_discountShare (wsV RX12 242 RX12 yX12_sold wsX12_sold) := goodIn_app (goodIn_of _ (by decide +kernel)) ggX12_discountShare_X12_sold
theorem dX12_discountShare_0 : decode cX12_discountShare 0 = .ok (.aload_n 0, 1) := by decide +kernel
theorem dX12_discountShare_1 : decode cX12_discountShare 1 = .ok (.aload_n 0, 1) := by decide +kernel
theorem dX12_discountShare_2 : decode cX12_discountShare 2 = .ok (.iconst 2, 1) := by decide +kernel
theorem dX12_discountShare_3 : decode cX12_discountShare 3 = .ok (.invokevirtual 242, 3) := by decide +kernel
theorem dX12_discountShare_6 : decode cX12_discountShare 6 = .ok (.ifCond .ne 7, 3) := by decide +kernel
theorem dX12_discountShare_9 : decode cX12_discountShare 9 = .ok (.iconst 1, 1) := by decide +kernel
theorem dX12_discountShare_10 : decode cX12_discountShare 10 = .ok (.goto 4, 3) := by decide +kernel
theorem dX12_discountShare_13 : decode cX12_discountShare 13 = .ok (.iconst 0, 1) := by decide +kernel
theorem dX12_discountShare_14 : decode cX12_discountShare 14 = .ok (.putfield 89, 3) := by decide +kernel
theorem dX12_discountShare_17 : decode cX12_discountShare 17 = .ok (.aload_n 0, 1) := by decide +kernel
theorem dX12_discountShare_18 : decode cX12_discountShare 18 = .ok (.getfield 89, 3) := by decide +kernel
theorem dX12_discountShare_21 : decode cX12_discountShare 21 = .ok (.ifCond .le 7, 3) := by decide +kernel
theorem dX12_discountShare_24 : decode cX12_discountShare 24 = .ok (.fconst 0, 1) := by decide +kernel
theorem dX12_discountShare_25 : decode cX12_discountShare 25 = .ok (.goto 22, 3) := by decide +kernel
theorem dX12_discountShare_28 : decode cX12_discountShare 28 = .ok (.aload_n 0, 1) := by decide +kernel
theorem dX12_discountShare_29 : decode cX12_discountShare 29 = .ok (.iconst 0, 1) := by decide +kernel
theorem dX12_discountShare_30 : decode cX12_discountShare 30 = .ok (.invokevirtual 242, 3) := by decide +kernel
theorem dX12_discountShare_33 : decode cX12_discountShare 33 = .ok (.aload_n 0, 1) := by decide +kernel
theorem dX12_discountShare_34 : decode cX12_discountShare 34 = .ok (.iconst 1, 1) := by decide +kernel
theorem dX12_discountShare_35 : decode cX12_discountShare 35 = .ok (.invokevirtual 242, 3) := by decide +kernel
theorem dX12_discountShare_38 : decode cX12_discountShare 38 = .ok (.isub, 1) := by decide +kernel
theorem dX12_discountShare_39 : decode cX12_discountShare 39 = .ok (.i2f, 1) := by decide +kernel
theorem dX12_discountShare_40 : decode cX12_discountShare 40 = .ok (.aload_n 0, 1) := by decide +kernel
theorem dX12_discountShare_41 : decode cX12_discountShare 41 = .ok (.iconst 0, 1) := by decide +kernel
theorem dX12_discountShare_42 : decode cX12_discountShare 42 = .ok (.invokevirtual 242, 3) := by decide +kernel
theorem dX12_discountShare_45 : decode cX12_discountShare 45 = .ok (.i2f, 1) := by decide +kernel
theorem dX12_discountShare_46 : decode cX12_discountShare 46 = .ok (.fdiv, 1) := by decide +kernel
theorem dX12_discountShare_47 : decode cX12_discountShare 47 = .ok (.freturn, 1) := by decide +kernel
set_option maxRecDepth 20000 in
theorem ggX12_meanNetPrice_X12_sold : GoodIn wsX12_meanNetPrice wsX12_sold := goodIn_ca (goodIn_r _ [6, 7, 8, 9, 10, 11, 12, 5, 13, 14, 15, 16, 17, 18, 19, 20, 21, 22, 23, 24, 25, 26, 27, 28, 29, 30, 31, 32, 33, 34, 35, 36, 37, 38, 39, 40, 41, 42, 43, 44, 45, 46, 47, 48, 49, 50, 51, 52, 53, 54] (by decide +kernel) (by decide +kernel)) (goodIn_sub (fun _ h => List.mem_cons_of_mem _ (List.mem_append_right _ h)) (by decide +kernel))
set_option maxRecDepth 20000 in
theorem gX12_meanNetPrice_X12_sold : GoodIn wsX12_meanNetPrice (wsV RX12 242 RX12 yX12_sold wsX12_sold) := goodIn_app (goodIn_of _ (by decide +kernel)) ggX12_meanNetPrice_X12_sold
theorem dX12_meanNetPrice_0 : decode cX12_meanNetPrice 0 = .ok (.aload_n 0, 1) := by decide +kernel
theorem dX12_meanNetPrice_1 : decode cX12_meanNetPrice 1 = .ok (.aload_n 0, 1) := by decide +kernel
theorem dX12_meanNetPrice_2 : decode cX12_meanNetPrice 2 = .ok (.iconst 2, 1) := by decide +kernel
theorem dX12_meanNetPrice_3 : decode cX12_meanNetPrice 3 = .ok (.invokevirtual 242, 3) := by decide +kernel
theorem dX12_meanNetPrice_6 : decode cX12_meanNetPrice 6 = .ok (.ifCond .ne 7, 3) := by decide +kernel
theorem dX12_meanNetPrice_9 : decode cX12_meanNetPrice 9 = .ok (.iconst 1, 1) := by decide +kernel
theorem dX12_meanNetPrice_10 : decode cX12_meanNetPrice 10 = .ok (.goto 4, 3) := by decide +kernel
theorem dX12_meanNetPrice_13 : decode cX12_meanNetPrice 13 = .ok (.iconst 0, 1) := by decide +kernel
theorem dX12_meanNetPrice_14 : decode cX12_meanNetPrice 14 = .ok (.putfield 89, 3) := by decide +kernel
theorem dX12_meanNetPrice_17 : decode cX12_meanNetPrice 17 = .ok (.aload_n 0, 1) := by decide +kernel
theorem dX12_meanNetPrice_18 : decode cX12_meanNetPrice 18 = .ok (.getfield 89, 3) := by decide +kernel
theorem dX12_meanNetPrice_21 : decode cX12_meanNetPrice 21 = .ok (.ifCond .le 7, 3) := by decide +kernel
theorem dX12_meanNetPrice_24 : decode cX12_meanNetPrice 24 = .ok (.dconst 0, 1) := by decide +kernel
theorem dX12_meanNetPrice_25 : decode cX12_meanNetPrice 25 = .ok (.goto 16, 3) := by decide +kernel
theorem dX12_meanNetPrice_28 : decode cX12_meanNetPrice 28 = .ok (.aload_n 0, 1) := by decide +kernel
theorem dX12_meanNetPrice_29 : decode cX12_meanNetPrice 29 = .ok (.iconst 1, 1) := by decide +kernel
theorem dX12_meanNetPrice_30 : decode cX12_meanNetPrice 30 = .ok (.invokevirtual 242, 3) := by decide +kernel
theorem dX12_meanNetPrice_33 : decode cX12_meanNetPrice 33 = .ok (.i2d, 1) := by decide +kernel
theorem dX12_meanNetPrice_34 : decode cX12_meanNetPrice 34 = .ok (.aload_n 0, 1) := by decide +kernel
theorem dX12_meanNetPrice_35 : decode cX12_meanNetPrice 35 = .ok (.iconst 2, 1) := by decide +kernel
theorem dX12_meanNetPrice_36 : decode cX12_meanNetPrice 36 = .ok (.invokevirtual 242, 3) := by decide +kernel
theorem dX12_meanNetPrice_39 : decode cX12_meanNetPrice 39 = .ok (.i2d, 1) := by decide +kernel
theorem dX12_meanNetPrice_40 : decode cX12_meanNetPrice 40 = .ok (.ddiv, 1) := by decide +kernel
theorem dX12_meanNetPrice_41 : decode cX12_meanNetPrice 41 = .ok (.dreturn, 1) := by decide +kernel
theorem dJx00060_init_a7421_0 : decode cJx00060_init_a7421 0 = .ok (.aload_n 0, 1) := by decide +kernel
theorem dJx00060_init_a7421_1 : decode cJx00060_init_a7421 1 = .ok (.aload_n 1, 1) := by decide +kernel
theorem dJx00060_init_a7421_2 : decode cJx00060_init_a7421 2 = .ok (.invokespecial 7, 3) := by decide +kernel
theorem dJx00060_init_a7421_5 : decode cJx00060_init_a7421 5 = .ok (.return_, 1) := by decide +kernel
theorem dJ6_bitCount_0f7a4_0 : decode cJ6_bitCount_0f7a4 0 = .ok (.iload_n 0, 1) := by decide +kernel
theorem dJ6_bitCount_0f7a4_1 : decode cJ6_bitCount_0f7a4 1 = .ok (.iload_n 0, 1) := by decide +kernel
theorem dJ6_bitCount_0f7a4_2 : decode cJ6_bitCount_0f7a4 2 = .ok (.iconst 1, 1) := by decide +kernel
theorem dJ6_bitCount_0f7a4_3 : decode cJ6_bitCount_0f7a4 3 = .ok (.iushr, 1) := by decide +kernel
theorem dJ6_bitCount_0f7a4_4 : decode cJ6_bitCount_0f7a4 4 = .ok (.ldc_w 265, 3) := by decide +kernel
theorem dJ6_bitCount_0f7a4_7 : decode cJ6_bitCount_0f7a4 7 = .ok (.iand, 1) := by decide +kernel
theorem dJ6_bitCount_0f7a4_8 : decode cJ6_bitCount_0f7a4 8 = .ok (.isub, 1) := by decide +kernel
theorem dJ6_bitCount_0f7a4_9 : decode cJ6_bitCount_0f7a4 9 = .ok (.istore_n 0, 1) := by decide +kernel
theorem dJ6_bitCount_0f7a4_10 : decode cJ6_bitCount_0f7a4 10 = .ok (.iload_n 0, 1) := by decide +kernel
theorem dJ6_bitCount_0f7a4_11 : decode cJ6_bitCount_0f7a4 11 = .ok (.ldc_w 266, 3) := by decide +kernel
theorem dJ6_bitCount_0f7a4_14 : decode cJ6_bitCount_0f7a4 14 = .ok (.iand, 1) := by decide +kernel
theorem dJ6_bitCount_0f7a4_15 : decode cJ6_bitCount_0f7a4 15 = .ok (.iload_n 0, 1) := by decide +kernel
theorem dJ6_bitCount_0f7a4_16 : decode cJ6_bitCount_0f7a4 16 = .ok (.iconst 2, 1) := by decide +kernel
theorem dJ6_bitCount_0f7a4_17 : decode cJ6_bitCount_0f7a4 17 = .ok (.iushr, 1) := by decide +kernel
theorem dJ6_bitCount_0f7a4_18 : decode cJ6_bitCount_0f7a4 18 = .ok (.ldc_w 266, 3) := by decide +kernel
theorem dJ6_bitCount_0f7a4_21 : decode cJ6_bitCount_0f7a4 21 = .ok (.iand, 1) := by decide +kernel
theorem dJ6_bitCount_0f7a4_22 : decode cJ6_bitCount_0f7a4 22 = .ok (.iadd, 1) := by decide +kernel
theorem dJ6_bitCount_0f7a4_23 : decode cJ6_bitCount_0f7a4 23 = .ok (.istore_n 0, 1) := by decide +kernel
theorem dJ6_bitCount_0f7a4_24 : decode cJ6_bitCount_0f7a4 24 = .ok (.iload_n 0, 1) := by decide +kernel
theorem dJ6_bitCount_0f7a4_25 : decode cJ6_bitCount_0f7a4 25 = .ok (.iload_n 0, 1) := by decide +kernel
theorem dJ6_bitCount_0f7a4_26 : decode cJ6_bitCount_0f7a4 26 = .ok (.iconst 4, 1) := by decide +kernel
theorem dJ6_bitCount_0f7a4_27 : decode cJ6_bitCount_0f7a4 27 = .ok (.iushr, 1) := by decide +kernel
theorem dJ6_bitCount_0f7a4_28 : decode cJ6_bitCount_0f7a4 28 = .ok (.iadd, 1) := by decide +kernel
theorem dJ6_bitCount_0f7a4_29 : decode cJ6_bitCount_0f7a4 29 = .ok (.ldc_w 267, 3) := by decide +kernel
theorem dJ6_bitCount_0f7a4_32 : decode cJ6_bitCount_0f7a4 32 = .ok (.iand, 1) := by decide +kernel
theorem dJ6_bitCount_0f7a4_33 : decode cJ6_bitCount_0f7a4 33 = .ok (.istore_n 0, 1) := by decide +kernel
theorem dJ6_bitCount_0f7a4_34 : decode cJ6_bitCount_0f7a4 34 = .ok (.iload_n 0, 1) := by decide +kernel
theorem dJ6_bitCount_0f7a4_35 : decode cJ6_bitCount_0f7a4 35 = .ok (.iload_n 0, 1) := by decide +kernel
theorem dJ6_bitCount_0f7a4_36 : decode cJ6_bitCount_0f7a4 36 = .ok (.bipush 8, 2) := by decide +kernel
theorem dJ6_bitCount_0f7a4_38 : decode cJ6_bitCount_0f7a4 38 = .ok (.iushr, 1) := by decide +kernel
theorem dJ6_bitCount_0f7a4_39 : decode cJ6_bitCount_0f7a4 39 = .ok (.iadd, 1) := by decide +kernel
theorem dJ6_bitCount_0f7a4_40 : decode cJ6_bitCount_0f7a4 40 = .ok (.istore_n 0, 1) := by decide +kernel
theorem dJ6_bitCount_0f7a4_41 : decode cJ6_bitCount_0f7a4 41 = .ok (.iload_n 0, 1) := by decide +kernel
theorem dJ6_bitCount_0f7a4_42 : decode cJ6_bitCount_0f7a4 42 = .ok (.iload_n 0, 1) := by decide +kernel
theorem dJ6_bitCount_0f7a4_43 : decode cJ6_bitCount_0f7a4 43 = .ok (.bipush 16, 2) := by decide +kernel
theorem dJ6_bitCount_0f7a4_45 : decode cJ6_bitCount_0f7a4 45 = .ok (.iushr, 1) := by decide +kernel
theorem dJ6_bitCount_0f7a4_46 : decode cJ6_bitCount_0f7a4 46 = .ok (.iadd, 1) := by decide +kernel
theorem dJ6_bitCount_0f7a4_47 : decode cJ6_bitCount_0f7a4 47 = .ok (.istore_n 0, 1) := by decide +kernel
theorem dJ6_bitCount_0f7a4_48 : decode cJ6_bitCount_0f7a4 48 = .ok (.iload_n 0, 1) := by decide +kernel
theorem dJ6_bitCount_0f7a4_49 : decode cJ6_bitCount_0f7a4 49 = .ok (.bipush 63, 2) := by decide +kernel
theorem dJ6_bitCount_0f7a4_51 : decode cJ6_bitCount_0f7a4 51 = .ok (.iand, 1) := by decide +kernel
theorem dJ6_bitCount_0f7a4_52 : decode cJ6_bitCount_0f7a4 52 = .ok (.ireturn, 1) := by decide +kernel
theorem dJ9_max_7cf53_0 : decode cJ9_max_7cf53 0 = .ok (.iload_n 0, 1) := by decide +kernel
theorem dJ9_max_7cf53_1 : decode cJ9_max_7cf53 1 = .ok (.iload_n 1, 1) := by decide +kernel
theorem dJ9_max_7cf53_2 : decode cJ9_max_7cf53 2 = .ok (.if_icmp .lt 7, 3) := by decide +kernel
theorem dJ9_max_7cf53_5 : decode cJ9_max_7cf53 5 = .ok (.iload_n 0, 1) := by decide +kernel
theorem dJ9_max_7cf53_6 : decode cJ9_max_7cf53 6 = .ok (.goto 4, 3) := by decide +kernel
theorem dJ9_max_7cf53_9 : decode cJ9_max_7cf53 9 = .ok (.iload_n 1, 1) := by decide +kernel
theorem dJ9_max_7cf53_10 : decode cJ9_max_7cf53 10 = .ok (.ireturn, 1) := by decide +kernel
theorem dJ9_min_7cf53_0 : decode cJ9_min_7cf53 0 = .ok (.iload_n 0, 1) := by decide +kernel
theorem dJ9_min_7cf53_1 : decode cJ9_min_7cf53 1 = .ok (.iload_n 1, 1) := by decide +kernel
theorem dJ9_min_7cf53_2 : decode cJ9_min_7cf53 2 = .ok (.if_icmp .gt 7, 3) := by decide +kernel
theorem dJ9_min_7cf53_5 : decode cJ9_min_7cf53 5 = .ok (.iload_n 0, 1) := by decide +kernel
theorem dJ9_min_7cf53_6 : decode cJ9_min_7cf53 6 = .ok (.goto 4, 3) := by decide +kernel
theorem dJ9_min_7cf53_9 : decode cJ9_min_7cf53 9 = .ok (.iload_n 1, 1) := by decide +kernel
theorem dJ9_min_7cf53_10 : decode cJ9_min_7cf53 10 = .ok (.ireturn, 1) := by decide +kernel
set_option maxRecDepth 20000 in
theorem ggL_put_X11_put : GoodIn wsL_put wsX11_put := goodIn_ca (goodIn_ca (goodIn_ca (goodIn_r _ [7, 8, 9, 10, 11, 12, 13, 14, 15, 6, 16, 17, 18, 19, 20, 21, 22, 23, 24, 25, 26, 27, 28, 29, 30, 31, 32, 33, 34, 35, 36, 37, 38, 39, 40, 41, 42, 43, 44] (by decide +kernel) (by decide +kernel)) (goodIn_sub (fun _ h => List.mem_cons_of_mem _ (List.mem_append_left _ (List.mem_append_right _ h))) (by decide +kernel))) (goodIn_sub (fun _ h => List.mem_cons_of_mem _ (List.mem_append_right _ h)) (by decide +kernel))) (goodIn_sub (fun _ h => List.mem_cons_of_mem _ (List.mem_append_left _ (List.mem_append_left _ (List.mem_append_right _ h)))) (by decide +kernel))
set_option maxRecDepth 20000 in
theorem gL_put_X11_put : GoodIn wsL_put (wsV RL 7 RX11 yX11_put wsX11_put) := goodIn_app (goodIn_of _ (by decide +kernel)) ggL_put_X11_put
theorem dL_put_0 : decode cL_put 0 = .ok (.aload_n 3, 1) := by decide +kernel
theorem dL_put_1 : decode cL_put 1 = .ok (.iconst 0, 1) := by decide +kernel
theorem dL_put_2 : decode cL_put 2 = .ok (.aload_n 0, 1) := by decide +kernel
theorem dL_put_3 : decode cL_put 3 = .ok (.iload_n 1, 1) := by decide +kernel
theorem dL_put_4 : decode cL_put 4 = .ok (.iload_n 2, 1) := by decide +kernel
theorem dL_put_5 : decode cL_put 5 = .ok (.invokevirtual 7, 3) := by decide +kernel
theorem dL_put_8 : decode cL_put 8 = .ok (.i2l, 1) := by decide +kernel
theorem dL_put_9 : decode cL_put 9 = .ok (.lastore, 1) := by decide +kernel
theorem dL_put_10 : decode cL_put 10 = .ok (.goto 11, 3) := by decide +kernel
theorem dL_put_13 : decode cL_put 13 = .ok (.astore 4, 2) := by decide +kernel
theorem dL_put_15 : decode cL_put 15 = .ok (.iconst 1, 1) := by decide +kernel
theorem dL_put_16 : decode cL_put 16 = .ok (.ireturn, 1) := by decide +kernel
theorem dL_put_17 : decode cL_put 17 = .ok (.astore 4, 2) := by decide +kernel
theorem dL_put_19 : decode cL_put 19 = .ok (.iconst 2, 1) := by decide +kernel
theorem dL_put_20 : decode cL_put 20 = .ok (.ireturn, 1) := by decide +kernel
theorem dL_put_21 : decode cL_put 21 = .ok (.iconst 0, 1) := by decide +kernel
theorem dL_put_22 : decode cL_put 22 = .ok (.ireturn, 1) := by decide +kernel
set_option maxRecDepth 20000 in
theorem ggL_takeOut_X11_takeOut : GoodIn wsL_takeOut wsX11_takeOut := goodIn_ca (goodIn_ca (goodIn_r _ [6, 7, 8, 9, 10, 11, 12, 13, 14, 15, 16, 17, 18, 5, 19, 20, 21, 22, 23, 24, 25, 26, 27, 28, 29, 30, 31, 32, 33, 34, 35, 36, 37, 38, 39, 40, 41, 42, 43] (by decide +kernel) (by decide +kernel)) (goodIn_sub (fun _ h => List.mem_cons_of_mem _ (List.mem_append_right _ h)) (by decide +kernel))) (goodIn_sub (fun _ h => List.mem_cons_of_mem _ (List.mem_append_left _ (List.mem_append_right _ h))) (by decide +kernel))
set_option maxRecDepth 20000 in
theorem gL_takeOut_X11_takeOut : GoodIn wsL_takeOut (wsV RL 17 RX11 yX11_takeOut wsX11_takeOut) := goodIn_app (goodIn_of _ (by decide +kernel)) ggL_takeOut_X11_takeOut
theorem dL_takeOut_0 : decode cL_takeOut 0 = .ok (.aload_n 2, 1) := by decide +kernel
theorem dL_takeOut_1 : decode cL_takeOut 1 = .ok (.iconst 0, 1) := by decide +kernel
theorem dL_takeOut_2 : decode cL_takeOut 2 = .ok (.aload_n 0, 1) := by decide +kernel
theorem dL_takeOut_3 : decode cL_takeOut 3 = .ok (.iload_n 1, 1) := by decide +kernel
theorem dL_takeOut_4 : decode cL_takeOut 4 = .ok (.invokevirtual 17, 3) := by decide +kernel
theorem dL_takeOut_7 : decode cL_takeOut 7 = .ok (.i2l, 1) := by decide +kernel
theorem dL_takeOut_8 : decode cL_takeOut 8 = .ok (.lastore, 1) := by decide +kernel
theorem dL_takeOut_9 : decode cL_takeOut 9 = .ok (.goto 6, 3) := by decide +kernel
theorem dL_takeOut_12 : decode cL_takeOut 12 = .ok (.astore_n 3, 1) := by decide +kernel
theorem dL_takeOut_13 : decode cL_takeOut 13 = .ok (.iconst 1, 1) := by decide +kernel
theorem dL_takeOut_14 : decode cL_takeOut 14 = .ok (.ireturn, 1) := by decide +kernel
theorem dL_takeOut_15 : decode cL_takeOut 15 = .ok (.iconst 0, 1) := by decide +kernel
theorem dL_takeOut_16 : decode cL_takeOut 16 = .ok (.ireturn, 1) := by decide +kernel
set_option maxRecDepth 20000 in
theorem ggL_setCustomer_X11_setCustomer : GoodIn wsL_setCustomer wsX11_setCustomer := goodIn_ca (goodIn_r _ [6, 7, 8, 9, 10, 11, 12, 5, 13, 14, 15, 16, 17, 18, 19, 20] (by decide +kernel) (by decide +kernel)) (goodIn_sub (fun _ h => List.mem_cons_of_mem _ (List.mem_append_right _ h)) (by decide +kernel))
set_option maxRecDepth 20000 in
theorem gL_setCustomer_X11_setCustomer : GoodIn wsL_setCustomer (wsV RL 23 RX11 yX11_setCustomer wsX11_setCustomer) := goodIn_app (goodIn_of _ (by decide +kernel)) ggL_setCustomer_X11_setCustomer
theorem dL_setCustomer_0 : decode cL_setCustomer 0 = .ok (.aload_n 2, 1) := by decide +kernel
theorem dL_setCustomer_1 : decode cL_setCustomer 1 = .ok (.iconst 0, 1) := by decide +kernel
theorem dL_setCustomer_2 : decode cL_setCustomer 2 = .ok (.aload_n 0, 1) := by decide +kernel
theorem dL_setCustomer_3 : decode cL_setCustomer 3 = .ok (.iload_n 1, 1) := by decide +kernel
theorem dL_setCustomer_4 : decode cL_setCustomer 4 = .ok (.invokevirtual 23, 3) := by decide +kernel
theorem dL_setCustomer_7 : decode cL_setCustomer 7 = .ok (.i2l, 1) := by decide +kernel
theorem dL_setCustomer_8 : decode cL_setCustomer 8 = .ok (.lastore, 1) := by decide +kernel
theorem dL_setCustomer_9 : decode cL_setCustomer 9 = .ok (.goto 6, 3) := by decide +kernel
theorem dL_setCustomer_12 : decode cL_setCustomer 12 = .ok (.astore_n 3, 1) := by decide +kernel
theorem dL_setCustomer_13 : decode cL_setCustomer 13 = .ok (.iconst 1, 1) := by decide +kernel
theorem dL_setCustomer_14 : decode cL_setCustomer 14 = .ok (.ireturn, 1) := by decide +kernel
theorem dL_setCustomer_15 : decode cL_setCustomer 15 = .ok (.iconst 0, 1) := by decide +kernel
theorem dL_setCustomer_16 : decode cL_setCustomer 16 = .ok (.ireturn, 1) := by decide +kernel
set_option maxRecDepth 20000 in
theorem ggL_addPercentage_X11_addPercentage : GoodIn wsL_addPercentage wsX11_addPercentage := goodIn_ca (goodIn_ca (goodIn_ca (goodIn_r _ [7, 8, 9, 10, 11, 12, 13, 14, 15, 16, 17, 6, 18, 19, 20, 21, 22, 23, 24, 25, 26, 27, 28, 29, 30, 31, 32, 33, 34, 35, 36, 37, 38, 39, 40, 41, 42, 43, 44, 45, 46, 47, 48, 49, 50, 51, 52, 53, 54, 55, 56, 57, 58, 59, 60, 61, 62, 63, 64, 65, 66, 67, 68, 69, 70, 71, 72, 73, 74, 75, 76, 77, 78, 79, 80, 81, 82, 83, 84, 85, 86, 87, 88, 89, 90, 91, 92, 93, 94, 95, 96, 97, 98, 99, 100, 101, 102, 103, 104, 105, 106, 107, 108, 109, 110, 111, 112, 113, 114, 115, 116, 117, 118, 119, 120, 121, 122, 123, 124, 125] (by decide +kernel) (by decide +kernel)) (goodIn_sub (fun _ h => List.mem_cons_of_mem _ (List.mem_append_left _ (List.mem_append_right _ h))) (by decide +kernel))) (goodIn_sub (fun _ h => List.mem_cons_of_mem _ (List.mem_append_right _ h)) (by decide +kernel))) (goodIn_sub (fun _ h => List.mem_cons_of_mem _ (List.mem_append_left _ (List.mem_append_left _ (List.mem_append_right _ h)))) (by decide +kernel))
set_option maxRecDepth 20000 in
theorem gL_addPercentage_X11_addPercentage : GoodIn wsL_addPercentage (wsV RL 26 RX11 yX11_addPercentage wsX11_addPercentage) := goodIn_app (goodIn_of _ (by decide +kernel)) ggL_addPercentage_X11_addPercentage
theorem dL_addPercentage_0 : decode cL_addPercentage 0 = .ok (.aload 5, 2) := by decide +kernel
theorem dL_addPercentage_2 : decode cL_addPercentage 2 = .ok (.iconst 0, 1) := by decide +kernel
theorem dL_addPercentage_3 : decode cL_addPercentage 3 = .ok (.aload_n 0, 1) := by decide +kernel
theorem dL_addPercentage_4 : decode cL_addPercentage 4 = .ok (.iload_n 1, 1) := by decide +kernel
theorem dL_addPercentage_5 : decode cL_addPercentage 5 = .ok (.iload_n 2, 1) := by decide +kernel
theorem dL_addPercentage_6 : decode cL_addPercentage 6 = .ok (.iload_n 3, 1) := by decide +kernel
theorem dL_addPercentage_7 : decode cL_addPercentage 7 = .ok (.iload 4, 2) := by decide +kernel
theorem dL_addPercentage_9 : decode cL_addPercentage 9 = .ok (.invokevirtual 26, 3) := by decide +kernel
theorem dL_addPercentage_12 : decode cL_addPercentage 12 = .ok (.i2l, 1) := by decide +kernel
theorem dL_addPercentage_13 : decode cL_addPercentage 13 = .ok (.lastore, 1) := by decide +kernel
theorem dL_addPercentage_14 : decode cL_addPercentage 14 = .ok (.goto 11, 3) := by decide +kernel
theorem dL_addPercentage_17 : decode cL_addPercentage 17 = .ok (.astore 6, 2) := by decide +kernel
theorem dL_addPercentage_19 : decode cL_addPercentage 19 = .ok (.iconst 1, 1) := by decide +kernel
theorem dL_addPercentage_20 : decode cL_addPercentage 20 = .ok (.ireturn, 1) := by decide +kernel
theorem dL_addPercentage_21 : decode cL_addPercentage 21 = .ok (.astore 6, 2) := by decide +kernel
theorem dL_addPercentage_23 : decode cL_addPercentage 23 = .ok (.iconst 2, 1) := by decide +kernel
theorem dL_addPercentage_24 : decode cL_addPercentage 24 = .ok (.ireturn, 1) := by decide +kernel
theorem dL_addPercentage_25 : decode cL_addPercentage 25 = .ok (.iconst 0, 1) := by decide +kernel
theorem dL_addPercentage_26 : decode cL_addPercentage 26 = .ok (.ireturn, 1) := by decide +kernel
set_option maxRecDepth 20000 in
theorem ggL_addFreeItem_X11_addFreeItem : GoodIn wsL_addFreeItem wsX11_addFreeItem := goodIn_ca (goodIn_ca (goodIn_ca (goodIn_r _ [7, 8, 9, 10, 11, 12, 13, 14, 15, 16, 17, 6, 18, 19, 20, 21, 22, 23, 24, 25, 26, 27, 28, 29, 30, 31, 32, 33, 34, 35, 36, 37, 38, 39, 40, 41, 42, 43, 44, 45, 46, 47, 48, 49, 50, 51, 52, 53, 54, 55, 56, 57, 58, 59, 60, 61, 62, 63, 64, 65, 66, 67, 68, 69, 70, 71, 72, 73, 74, 75, 76, 77, 78, 79, 80, 81, 82, 83, 84, 85, 86, 87, 88, 89, 90, 91, 92, 93, 94, 95, 96, 97, 98, 99, 100, 101, 102, 103, 104, 105, 106, 107, 108, 109, 110, 111, 112, 113, 114, 115, 116, 117, 118, 119, 120, 121, 122, 123, 124, 125] (by decide +kernel) (by decide +kernel)) (goodIn_sub (fun _ h => List.mem_cons_of_mem _ (List.mem_append_left _ (List.mem_append_right _ h))) (by decide +kernel))) (goodIn_sub (fun _ h => List.mem_cons_of_mem _ (List.mem_append_right _ h)) (by decide +kernel))) (goodIn_sub (fun _ h => List.mem_cons_of_mem _ (List.mem_append_left _ (List.mem_append_left _ (List.mem_append_right _ h)))) (by decide +kernel))
set_option maxRecDepth 20000 in
theorem gL_addFreeItem_X11_addFreeItem : GoodIn wsL_addFreeItem (wsV RL 30 RX11 yX11_addFreeItem wsX11_addFreeItem) := goodIn_app (goodIn_of _ (by decide +kernel)) ggL_addFreeItem_X11_addFreeItem
theorem dL_addFreeItem_0 : decode cL_addFreeItem 0 = .ok (.aload 5, 2) := by decide +kernel
theorem dL_addFreeItem_2 : decode cL_addFreeItem 2 = .ok (.iconst 0, 1) := by decide +kernel
theorem dL_addFreeItem_3 : decode cL_addFreeItem 3 = .ok (.aload_n 0, 1) := by decide +kernel
theorem dL_addFreeItem_4 : decode cL_addFreeItem 4 = .ok (.iload_n 1, 1) := by decide +kernel
theorem dL_addFreeItem_5 : decode cL_addFreeItem 5 = .ok (.iload_n 2, 1) := by decide +kernel
theorem dL_addFreeItem_6 : decode cL_addFreeItem 6 = .ok (.iload_n 3, 1) := by decide +kernel
theorem dL_addFreeItem_7 : decode cL_addFreeItem 7 = .ok (.iload 4, 2) := by decide +kernel
theorem dL_addFreeItem_9 : decode cL_addFreeItem 9 = .ok (.invokevirtual 30, 3) := by decide +kernel
theorem dL_addFreeItem_12 : decode cL_addFreeItem 12 = .ok (.i2l, 1) := by decide +kernel
theorem dL_addFreeItem_13 : decode cL_addFreeItem 13 = .ok (.lastore, 1) := by decide +kernel
theorem dL_addFreeItem_14 : decode cL_addFreeItem 14 = .ok (.goto 11, 3) := by decide +kernel
theorem dL_addFreeItem_17 : decode cL_addFreeItem 17 = .ok (.astore 6, 2) := by decide +kernel
theorem dL_addFreeItem_19 : decode cL_addFreeItem 19 = .ok (.iconst 1, 1) := by decide +kernel
theorem dL_addFreeItem_20 : decode cL_addFreeItem 20 = .ok (.ireturn, 1) := by decide +kernel
theorem dL_addFreeItem_21 : decode cL_addFreeItem 21 = .ok (.astore 6, 2) := by decide +kernel
theorem dL_addFreeItem_23 : decode cL_addFreeItem 23 = .ok (.iconst 2, 1) := by decide +kernel
theorem dL_addFreeItem_24 : decode cL_addFreeItem 24 = .ok (.ireturn, 1) := by decide +kernel
theorem dL_addFreeItem_25 : decode cL_addFreeItem 25 = .ok (.iconst 0, 1) := by decide +kernel
theorem dL_addFreeItem_26 : decode cL_addFreeItem 26 = .ok (.ireturn, 1) := by decide +kernel
set_option maxRecDepth 20000 in
theorem ggL_addBundle_X11_addBundle : GoodIn wsL_addBundle wsX11_addBundle := goodIn_ca (goodIn_ca (goodIn_ca (goodIn_r _ [7, 8, 9, 10, 11, 12, 13, 14, 15, 16, 17, 6, 18, 19, 20, 21, 22, 23, 24, 25, 26, 27, 28, 29, 30, 31, 32, 33, 34, 35, 36, 37, 38, 39, 40, 41, 42, 43, 44, 45, 46, 47, 48, 49, 50, 51, 52, 53, 54, 55, 56, 57, 58, 59, 60, 61, 62, 63, 64, 65, 66, 67, 68, 69, 70, 71, 72, 73, 74, 75, 76, 77, 78, 79, 80, 81, 82, 83, 84, 85, 86, 87, 88, 89, 90, 91, 92, 93, 94, 95, 96, 97, 98, 99, 100, 101, 102, 103, 104, 105, 106, 107, 108, 109, 110, 111, 112, 113, 114, 115, 116, 117, 118, 119, 120, 121, 122, 123, 124, 125, 126, 127, 128, 129, 130] (by decide +kernel) (by decide +kernel)) (goodIn_sub (fun _ h => List.mem_cons_of_mem _ (List.mem_append_left _ (List.mem_append_right _ h))) (by decide +kernel))) (goodIn_sub (fun _ h => List.mem_cons_of_mem _ (List.mem_append_right _ h)) (by decide +kernel))) (goodIn_sub (fun _ h => List.mem_cons_of_mem _ (List.mem_append_left _ (List.mem_append_left _ (List.mem_append_right _ h)))) (by decide +kernel))
set_option maxRecDepth 20000 in
theorem gL_addBundle_X11_addBundle : GoodIn wsL_addBundle (wsV RL 33 RX11 yX11_addBundle wsX11_addBundle) := goodIn_app (goodIn_of _ (by decide +kernel)) ggL_addBundle_X11_addBundle
theorem dL_addBundle_0 : decode cL_addBundle 0 = .ok (.aload 7, 2) := by decide +kernel
theorem dL_addBundle_2 : decode cL_addBundle 2 = .ok (.iconst 0, 1) := by decide +kernel
theorem dL_addBundle_3 : decode cL_addBundle 3 = .ok (.aload_n 0, 1) := by decide +kernel
theorem dL_addBundle_4 : decode cL_addBundle 4 = .ok (.iload_n 1, 1) := by decide +kernel
theorem dL_addBundle_5 : decode cL_addBundle 5 = .ok (.iload_n 2, 1) := by decide +kernel
theorem dL_addBundle_6 : decode cL_addBundle 6 = .ok (.iload_n 3, 1) := by decide +kernel
theorem dL_addBundle_7 : decode cL_addBundle 7 = .ok (.iload 4, 2) := by decide +kernel
theorem dL_addBundle_9 : decode cL_addBundle 9 = .ok (.iload 5, 2) := by decide +kernel
theorem dL_addBundle_11 : decode cL_addBundle 11 = .ok (.iload 6, 2) := by decide +kernel
theorem dL_addBundle_13 : decode cL_addBundle 13 = .ok (.invokevirtual 33, 3) := by decide +kernel
theorem dL_addBundle_16 : decode cL_addBundle 16 = .ok (.i2l, 1) := by decide +kernel
theorem dL_addBundle_17 : decode cL_addBundle 17 = .ok (.lastore, 1) := by decide +kernel
theorem dL_addBundle_18 : decode cL_addBundle 18 = .ok (.goto 11, 3) := by decide +kernel
theorem dL_addBundle_21 : decode cL_addBundle 21 = .ok (.astore 8, 2) := by decide +kernel
theorem dL_addBundle_23 : decode cL_addBundle 23 = .ok (.iconst 1, 1) := by decide +kernel
theorem dL_addBundle_24 : decode cL_addBundle 24 = .ok (.ireturn, 1) := by decide +kernel
theorem dL_addBundle_25 : decode cL_addBundle 25 = .ok (.astore 8, 2) := by decide +kernel
theorem dL_addBundle_27 : decode cL_addBundle 27 = .ok (.iconst 2, 1) := by decide +kernel
theorem dL_addBundle_28 : decode cL_addBundle 28 = .ok (.ireturn, 1) := by decide +kernel
theorem dL_addBundle_29 : decode cL_addBundle 29 = .ok (.iconst 0, 1) := by decide +kernel
theorem dL_addBundle_30 : decode cL_addBundle 30 = .ok (.ireturn, 1) := by decide +kernel
set_option maxRecDepth 20000 in
theorem ggL_addThreshold_X11_addThreshold : GoodIn wsL_addThreshold wsX11_addThreshold := goodIn_ca (goodIn_ca (goodIn_ca (goodIn_r _ [7, 8, 9, 10, 11, 12, 13, 14, 15, 16, 17, 6, 18, 19, 20, 21, 22, 23, 24, 25, 26, 27, 28, 29, 30, 31, 32, 33, 34, 35, 36, 37, 38, 39, 40, 41, 42, 43, 44, 45, 46, 47, 48, 49, 50, 51, 52, 53, 54, 55, 56, 57, 58, 59, 60, 61, 62, 63, 64, 65, 66, 67, 68, 69, 70, 71, 72, 73, 74, 75, 76, 77, 78, 79, 80, 81, 82, 83, 84, 85, 86, 87, 88, 89, 90, 91, 92, 93, 94, 95, 96, 97, 98, 99, 100, 101, 102, 103, 104, 105, 106, 107, 108, 109, 110, 111, 112, 113, 114, 115, 116, 117, 118, 119, 120, 121, 122] (by decide +kernel) (by decide +kernel)) (goodIn_sub (fun _ h => List.mem_cons_of_mem _ (List.mem_append_left _ (List.mem_append_right _ h))) (by decide +kernel))) (goodIn_sub (fun _ h => List.mem_cons_of_mem _ (List.mem_append_right _ h)) (by decide +kernel))) (goodIn_sub (fun _ h => List.mem_cons_of_mem _ (List.mem_append_left _ (List.mem_append_left _ (List.mem_append_right _ h)))) (by decide +kernel))
set_option maxRecDepth 20000 in
theorem gL_addThreshold_X11_addThreshold : GoodIn wsL_addThreshold (wsV RL 37 RX11 yX11_addThreshold wsX11_addThreshold) := goodIn_app (goodIn_of _ (by decide +kernel)) ggL_addThreshold_X11_addThreshold
theorem dL_addThreshold_0 : decode cL_addThreshold 0 = .ok (.aload 5, 2) := by decide +kernel
theorem dL_addThreshold_2 : decode cL_addThreshold 2 = .ok (.iconst 0, 1) := by decide +kernel
theorem dL_addThreshold_3 : decode cL_addThreshold 3 = .ok (.aload_n 0, 1) := by decide +kernel
theorem dL_addThreshold_4 : decode cL_addThreshold 4 = .ok (.iload_n 1, 1) := by decide +kernel
theorem dL_addThreshold_5 : decode cL_addThreshold 5 = .ok (.iload_n 2, 1) := by decide +kernel
theorem dL_addThreshold_6 : decode cL_addThreshold 6 = .ok (.iload_n 3, 1) := by decide +kernel
theorem dL_addThreshold_7 : decode cL_addThreshold 7 = .ok (.iload 4, 2) := by decide +kernel
theorem dL_addThreshold_9 : decode cL_addThreshold 9 = .ok (.invokevirtual 37, 3) := by decide +kernel
theorem dL_addThreshold_12 : decode cL_addThreshold 12 = .ok (.i2l, 1) := by decide +kernel
theorem dL_addThreshold_13 : decode cL_addThreshold 13 = .ok (.lastore, 1) := by decide +kernel
theorem dL_addThreshold_14 : decode cL_addThreshold 14 = .ok (.goto 11, 3) := by decide +kernel
theorem dL_addThreshold_17 : decode cL_addThreshold 17 = .ok (.astore 6, 2) := by decide +kernel
theorem dL_addThreshold_19 : decode cL_addThreshold 19 = .ok (.iconst 1, 1) := by decide +kernel
theorem dL_addThreshold_20 : decode cL_addThreshold 20 = .ok (.ireturn, 1) := by decide +kernel
theorem dL_addThreshold_21 : decode cL_addThreshold 21 = .ok (.astore 6, 2) := by decide +kernel
theorem dL_addThreshold_23 : decode cL_addThreshold 23 = .ok (.iconst 2, 1) := by decide +kernel
theorem dL_addThreshold_24 : decode cL_addThreshold 24 = .ok (.ireturn, 1) := by decide +kernel
theorem dL_addThreshold_25 : decode cL_addThreshold 25 = .ok (.iconst 0, 1) := by decide +kernel
theorem dL_addThreshold_26 : decode cL_addThreshold 26 = .ok (.ireturn, 1) := by decide +kernel
set_option maxRecDepth 20000 in
theorem ggL_left_X11_left : GoodIn wsL_left wsX11_left := goodIn_ca (goodIn_ca (goodIn_r _ [6, 7, 8, 9, 10, 11, 12, 13, 14, 15, 16, 17, 18, 19, 20, 21, 22, 23, 24, 25, 26, 27, 28, 29, 30, 31, 32, 33, 34, 35, 36, 37, 5, 38, 39, 40, 41, 42, 43, 44, 45, 46, 47, 48, 49, 50, 51, 52, 53, 54, 55, 56, 57, 58, 59, 60, 61, 62, 63, 64, 65, 66, 67, 68, 69, 70, 71, 72] (by decide +kernel) (by decide +kernel)) (goodIn_sub (fun _ h => List.mem_cons_of_mem _ (List.mem_append_right _ h)) (by decide +kernel))) (goodIn_sub (fun _ h => List.mem_cons_of_mem _ (List.mem_append_left _ (List.mem_append_right _ h))) (by decide +kernel))
set_option maxRecDepth 20000 in
theorem gL_left_X11_left : GoodIn wsL_left (wsV RL 40 RX11 yX11_left wsX11_left) := goodIn_app (goodIn_of _ (by decide +kernel)) ggL_left_X11_left
theorem dL_left_0 : decode cL_left 0 = .ok (.aload_n 2, 1) := by decide +kernel
theorem dL_left_1 : decode cL_left 1 = .ok (.iconst 0, 1) := by decide +kernel
theorem dL_left_2 : decode cL_left 2 = .ok (.aload_n 0, 1) := by decide +kernel
theorem dL_left_3 : decode cL_left 3 = .ok (.iload_n 1, 1) := by decide +kernel
theorem dL_left_4 : decode cL_left 4 = .ok (.invokevirtual 40, 3) := by decide +kernel
theorem dL_left_7 : decode cL_left 7 = .ok (.i2l, 1) := by decide +kernel
theorem dL_left_8 : decode cL_left 8 = .ok (.lastore, 1) := by decide +kernel
theorem dL_left_9 : decode cL_left 9 = .ok (.goto 6, 3) := by decide +kernel
theorem dL_left_12 : decode cL_left 12 = .ok (.astore_n 3, 1) := by decide +kernel
theorem dL_left_13 : decode cL_left 13 = .ok (.iconst 1, 1) := by decide +kernel
theorem dL_left_14 : decode cL_left 14 = .ok (.ireturn, 1) := by decide +kernel
theorem dL_left_15 : decode cL_left 15 = .ok (.iconst 0, 1) := by decide +kernel
theorem dL_left_16 : decode cL_left 16 = .ok (.ireturn, 1) := by decide +kernel
set_option maxRecDepth 20000 in
theorem ggL_bestByTrying_X11_bestByTrying : GoodIn wsL_bestByTrying wsX11_bestByTrying := goodIn_ca (goodIn_ca (goodIn_ca (goodIn_r _ [6, 7, 8, 9, 10, 11, 12, 13, 14, 15, 16, 17, 18, 19, 5, 20, 21, 22, 23, 24, 25, 26, 27, 28, 29, 30, 31, 32, 33, 34, 35, 36, 37, 38, 39, 40, 41, 42, 43, 44, 45, 46, 47, 48, 49, 50, 51, 52, 53, 54, 55, 56, 57, 58, 59, 60, 61, 62, 63, 64, 65, 66, 67, 68, 69, 70, 71, 72, 73, 74, 75, 76, 77, 78, 79, 80, 81, 82, 83, 84, 85, 86, 87, 88, 89, 90, 91, 92, 93, 94, 95, 96, 97, 98, 99, 100, 101, 102, 103, 104, 105, 106, 107, 108, 109, 110, 111, 112, 113, 114, 115, 116, 117, 118, 119, 120, 121, 122, 123, 124, 125, 126, 127, 128, 129, 130, 131, 132, 133, 134, 135, 136, 137, 138, 139, 140, 141, 142, 143, 144, 145, 146, 147, 148, 149, 150, 151, 152, 153, 154, 155, 156, 157, 158, 159, 160, 161, 162, 163, 164, 165, 166, 167, 168, 169, 170, 171, 172, 173, 174, 175, 176, 177, 178, 179, 180, 181, 182, 183, 184, 185, 186, 187, 188, 189, 190, 191, 192, 193, 194, 195, 196, 197, 198, 199, 200, 201, 202, 203, 204, 205, 206, 207, 208, 209, 210, 211, 212, 213, 214, 215, 216, 217, 218, 219, 220, 221, 222, 223, 224, 225, 226, 227, 228, 229, 230, 231, 232, 233, 234, 235, 236, 237, 238, 239, 240, 241, 242, 243, 244, 245, 246, 247, 248, 249, 250, 251, 252, 253, 254, 255, 256, 257, 258, 259, 260, 261, 262, 263, 264, 265, 266, 267, 268, 269, 270, 271, 272, 273, 274, 275, 276, 277, 278, 279, 280, 281, 282, 283, 284, 285, 286, 287, 288, 289, 290, 291, 292, 293, 294, 295, 296, 297, 298, 299, 300, 301, 302, 303, 304, 305, 306, 307, 308, 309, 310, 311, 312, 313, 314, 315, 316, 317, 318, 319, 320, 321, 322, 323, 324, 325, 326, 327, 328, 329, 330, 331, 332, 333, 334, 335, 336, 337, 338, 339, 340, 341, 342, 343, 344, 345, 346, 347, 348, 349, 350, 351, 352, 353, 354, 355, 356, 357, 358, 359, 360, 361, 362, 363, 364, 365, 366] (by decide +kernel) (by decide +kernel)) (goodIn_sub (fun _ h => List.mem_cons_of_mem _ (List.mem_append_left _ (List.mem_append_right _ h))) (by decide +kernel))) (goodIn_sub (fun _ h => List.mem_cons_of_mem _ (List.mem_append_left _ (List.mem_append_left _ (List.mem_append_right _ h)))) (by decide +kernel))) (goodIn_sub (fun _ h => List.mem_cons_of_mem _ (List.mem_append_right _ h)) (by decide +kernel))
set_option maxRecDepth 20000 in
theorem gL_bestByTrying_X11_bestByTrying : GoodIn wsL_bestByTrying (wsV RL 45 RX11 yX11_bestByTrying wsX11_bestByTrying) := goodIn_app (goodIn_of _ (by decide +kernel)) ggL_bestByTrying_X11_bestByTrying
theorem dL_bestByTrying_0 : decode cL_bestByTrying 0 = .ok (.aload_n 1, 1) := by decide +kernel
theorem dL_bestByTrying_1 : decode cL_bestByTrying 1 = .ok (.iconst 0, 1) := by decide +kernel
theorem dL_bestByTrying_2 : decode cL_bestByTrying 2 = .ok (.aload_n 0, 1) := by decide +kernel
theorem dL_bestByTrying_3 : decode cL_bestByTrying 3 = .ok (.invokevirtual 45, 3) := by decide +kernel
theorem dL_bestByTrying_6 : decode cL_bestByTrying 6 = .ok (.i2l, 1) := by decide +kernel
theorem dL_bestByTrying_7 : decode cL_bestByTrying 7 = .ok (.lastore, 1) := by decide +kernel
theorem dL_bestByTrying_8 : decode cL_bestByTrying 8 = .ok (.goto 6, 3) := by decide +kernel
theorem dL_bestByTrying_11 : decode cL_bestByTrying 11 = .ok (.astore_n 2, 1) := by decide +kernel
theorem dL_bestByTrying_12 : decode cL_bestByTrying 12 = .ok (.iconst 1, 1) := by decide +kernel
theorem dL_bestByTrying_13 : decode cL_bestByTrying 13 = .ok (.ireturn, 1) := by decide +kernel
theorem dL_bestByTrying_14 : decode cL_bestByTrying 14 = .ok (.iconst 0, 1) := by decide +kernel
theorem dL_bestByTrying_15 : decode cL_bestByTrying 15 = .ok (.ireturn, 1) := by decide +kernel
set_option maxRecDepth 20000 in
theorem ggL_offerOf_X11_offerOf : GoodIn wsL_offerOf wsX11_offerOf := goodIn_ca (goodIn_ca (goodIn_ca (goodIn_r _ [6, 7, 8, 9, 10, 11, 12, 13, 14, 15, 16, 17, 18, 5, 19, 20, 21, 22, 23, 24, 25, 26, 27, 28, 29, 30, 31, 32, 33, 34, 35, 36, 37, 38, 39, 40, 41, 42, 43, 44, 45, 46, 47, 48, 49, 50, 51, 52, 53, 54, 55, 56, 57, 58, 59, 60, 61, 62, 63, 64, 65, 66, 67, 68, 69, 70, 71, 72, 73, 74, 75, 76, 77, 78, 79, 80, 81, 82, 83, 84, 85, 86, 87, 88, 89, 90, 91, 92, 93, 94, 95, 96, 97, 98, 99, 100, 101, 102, 103, 104, 105, 106, 107, 108, 109, 110, 111, 112, 113, 114, 115, 116, 117, 118, 119, 120, 121, 122, 123, 124, 125, 126, 127, 128, 129, 130, 131, 132, 133, 134, 135, 136, 137, 138, 139, 140, 141, 142, 143, 144, 145, 146, 147, 148, 149, 150, 151, 152, 153, 154, 155, 156, 157, 158, 159, 160, 161, 162, 163, 164, 165, 166, 167, 168, 169, 170, 171, 172, 173, 174, 175, 176, 177, 178, 179, 180, 181, 182, 183, 184, 185, 186, 187, 188, 189, 190, 191, 192, 193, 194, 195, 196, 197, 198, 199, 200, 201, 202, 203, 204, 205, 206, 207, 208, 209, 210, 211, 212, 213, 214, 215, 216, 217, 218, 219, 220, 221, 222, 223, 224, 225, 226, 227, 228, 229, 230, 231, 232, 233, 234, 235, 236, 237, 238, 239, 240, 241, 242, 243, 244, 245, 246, 247, 248, 249, 250, 251, 252, 253, 254, 255, 256, 257, 258, 259, 260, 261, 262, 263, 264, 265, 266, 267, 268, 269, 270, 271, 272, 273, 274, 275, 276, 277, 278, 279, 280, 281, 282, 283, 284, 285, 286, 287, 288, 289, 290, 291, 292, 293, 294, 295, 296, 297, 298, 299, 300, 301, 302, 303, 304, 305, 306, 307, 308, 309, 310, 311, 312, 313, 314, 315, 316, 317, 318, 319, 320, 321, 322, 323, 324, 325, 326, 327, 328, 329, 330, 331, 332, 333, 334, 335, 336, 337, 338, 339, 340, 341, 342, 343, 344, 345, 346, 347, 348, 349, 350, 351, 352, 353, 354, 355, 356, 357, 358, 359, 360, 361, 362, 363] (by decide +kernel) (by decide +kernel)) (goodIn_sub (fun _ h => List.mem_cons_of_mem _ (List.mem_append_left _ (List.mem_append_right _ h))) (by decide +kernel))) (goodIn_sub (fun _ h => List.mem_cons_of_mem _ (List.mem_append_left _ (List.mem_append_left _ (List.mem_append_right _ h)))) (by decide +kernel))) (goodIn_sub (fun _ h => List.mem_cons_of_mem _ (List.mem_append_right _ h)) (by decide +kernel))
set_option maxRecDepth 20000 in
theorem gL_offerOf_X11_offerOf : GoodIn wsL_offerOf (wsV RL 51 RX11 yX11_offerOf wsX11_offerOf) := goodIn_app (goodIn_of _ (by decide +kernel)) ggL_offerOf_X11_offerOf
theorem dL_offerOf_0 : decode cL_offerOf 0 = .ok (.aload_n 2, 1) := by decide +kernel
theorem dL_offerOf_1 : decode cL_offerOf 1 = .ok (.iconst 0, 1) := by decide +kernel
theorem dL_offerOf_2 : decode cL_offerOf 2 = .ok (.aload_n 0, 1) := by decide +kernel
theorem dL_offerOf_3 : decode cL_offerOf 3 = .ok (.iload_n 1, 1) := by decide +kernel
theorem dL_offerOf_4 : decode cL_offerOf 4 = .ok (.invokevirtual 51, 3) := by decide +kernel
theorem dL_offerOf_7 : decode cL_offerOf 7 = .ok (.i2l, 1) := by decide +kernel
theorem dL_offerOf_8 : decode cL_offerOf 8 = .ok (.lastore, 1) := by decide +kernel
theorem dL_offerOf_9 : decode cL_offerOf 9 = .ok (.goto 6, 3) := by decide +kernel
theorem dL_offerOf_12 : decode cL_offerOf 12 = .ok (.astore_n 3, 1) := by decide +kernel
theorem dL_offerOf_13 : decode cL_offerOf 13 = .ok (.iconst 1, 1) := by decide +kernel
theorem dL_offerOf_14 : decode cL_offerOf 14 = .ok (.ireturn, 1) := by decide +kernel
theorem dL_offerOf_15 : decode cL_offerOf 15 = .ok (.iconst 0, 1) := by decide +kernel
theorem dL_offerOf_16 : decode cL_offerOf 16 = .ok (.ireturn, 1) := by decide +kernel
set_option maxRecDepth 20000 in
theorem ggL_uses_X11_uses : GoodIn wsL_uses wsX11_uses := goodIn_ca (goodIn_ca (goodIn_ca (goodIn_r _ [6, 7, 8, 9, 10, 11, 12, 13, 14, 15, 16, 17, 18, 19, 5, 20, 21, 22, 23, 24, 25, 26, 27, 28, 29, 30, 31, 32, 33, 34, 35, 36, 37, 38, 39, 40, 41, 42, 43, 44, 45, 46, 47, 48, 49, 50, 51, 52, 53, 54, 55, 56, 57, 58, 59, 60, 61, 62, 63, 64, 65, 66, 67, 68, 69, 70, 71, 72, 73, 74, 75, 76, 77, 78, 79, 80, 81, 82, 83, 84, 85, 86, 87, 88, 89, 90, 91, 92, 93, 94, 95, 96, 97, 98, 99, 100, 101, 102, 103, 104, 105, 106, 107, 108, 109, 110, 111, 112, 113, 114, 115, 116, 117, 118, 119, 120, 121, 122, 123, 124, 125, 126, 127, 128, 129, 130, 131, 132, 133, 134, 135, 136, 137, 138, 139, 140, 141, 142, 143, 144, 145, 146, 147, 148, 149, 150, 151, 152, 153, 154, 155, 156, 157, 158, 159, 160, 161, 162, 163, 164, 165, 166, 167, 168, 169, 170, 171, 172, 173, 174, 175, 176, 177, 178, 179, 180, 181, 182, 183, 184, 185, 186, 187, 188, 189, 190, 191, 192, 193, 194, 195, 196, 197, 198, 199, 200, 201, 202, 203, 204, 205, 206, 207, 208, 209, 210, 211, 212, 213, 214, 215, 216, 217, 218, 219, 220, 221, 222, 223, 224, 225, 226, 227, 228, 229, 230, 231, 232, 233, 234, 235, 236, 237, 238, 239, 240, 241, 242, 243, 244, 245, 246, 247, 248, 249, 250, 251, 252, 253, 254, 255, 256, 257, 258, 259, 260, 261, 262, 263, 264, 265, 266, 267, 268, 269, 270, 271, 272, 273, 274, 275, 276, 277, 278, 279, 280, 281, 282, 283, 284, 285, 286, 287, 288, 289, 290, 291, 292, 293, 294, 295, 296, 297, 298, 299, 300, 301, 302, 303, 304, 305, 306, 307, 308, 309, 310, 311, 312, 313, 314, 315, 316, 317, 318, 319, 320, 321, 322, 323, 324, 325, 326, 327, 328, 329, 330, 331, 332, 333, 334, 335, 336, 337, 338, 339, 340, 341, 342, 343, 344, 345, 346, 347, 348, 349, 350, 351, 352, 353, 354, 355, 356, 357, 358, 359, 360, 361, 362] (by decide +kernel) (by decide +kernel)) (goodIn_sub (fun _ h => List.mem_cons_of_mem _ (List.mem_append_left _ (List.mem_append_right _ h))) (by decide +kernel))) (goodIn_sub (fun _ h => List.mem_cons_of_mem _ (List.mem_append_left _ (List.mem_append_left _ (List.mem_append_right _ h)))) (by decide +kernel))) (goodIn_sub (fun _ h => List.mem_cons_of_mem _ (List.mem_append_right _ h)) (by decide +kernel))
set_option maxRecDepth 20000 in
theorem gL_uses_X11_uses : GoodIn wsL_uses (wsV RL 54 RX11 yX11_uses wsX11_uses) := goodIn_app (goodIn_of _ (by decide +kernel)) ggL_uses_X11_uses
theorem dL_uses_0 : decode cL_uses 0 = .ok (.aload_n 2, 1) := by decide +kernel
theorem dL_uses_1 : decode cL_uses 1 = .ok (.iconst 0, 1) := by decide +kernel
theorem dL_uses_2 : decode cL_uses 2 = .ok (.aload_n 0, 1) := by decide +kernel
theorem dL_uses_3 : decode cL_uses 3 = .ok (.iload_n 1, 1) := by decide +kernel
theorem dL_uses_4 : decode cL_uses 4 = .ok (.invokevirtual 54, 3) := by decide +kernel
theorem dL_uses_7 : decode cL_uses 7 = .ok (.i2l, 1) := by decide +kernel
theorem dL_uses_8 : decode cL_uses 8 = .ok (.lastore, 1) := by decide +kernel
theorem dL_uses_9 : decode cL_uses 9 = .ok (.goto 6, 3) := by decide +kernel
theorem dL_uses_12 : decode cL_uses 12 = .ok (.astore_n 3, 1) := by decide +kernel
theorem dL_uses_13 : decode cL_uses 13 = .ok (.iconst 1, 1) := by decide +kernel
theorem dL_uses_14 : decode cL_uses 14 = .ok (.ireturn, 1) := by decide +kernel
theorem dL_uses_15 : decode cL_uses 15 = .ok (.iconst 0, 1) := by decide +kernel
theorem dL_uses_16 : decode cL_uses 16 = .ok (.ireturn, 1) := by decide +kernel
set_option maxRecDepth 20000 in
theorem ggL_reason_X11_reason : GoodIn wsL_reason wsX11_reason := goodIn_ca (goodIn_ca (goodIn_ca (goodIn_r _ [6, 7, 8, 9, 10, 11, 12, 13, 14, 15, 16, 17, 18, 19, 20, 5, 21, 22, 23, 24, 25, 26, 27, 28, 29, 30, 31, 32, 33, 34, 35, 36, 37, 38, 39, 40, 41, 42, 43, 44, 45, 46, 47, 48, 49, 50, 51, 52, 53, 54, 55, 56, 57, 58, 59, 60, 61, 62, 63, 64, 65, 66, 67, 68, 69, 70, 71, 72, 73, 74, 75, 76, 77, 78, 79, 80, 81, 82, 83, 84, 85, 86, 87, 88, 89, 90, 91, 92, 93, 94, 95, 96, 97, 98, 99, 100, 101, 102, 103, 104, 105, 106, 107, 108, 109, 110, 111, 112, 113, 114, 115, 116, 117, 118, 119, 120, 121, 122, 123, 124, 125, 126, 127, 128, 129, 130, 131, 132, 133, 134, 135, 136, 137, 138, 139, 140, 141, 142, 143, 144, 145, 146, 147, 148, 149, 150, 151, 152, 153, 154, 155, 156, 157, 158, 159, 160, 161, 162, 163, 164, 165, 166, 167, 168, 169, 170, 171, 172, 173, 174, 175, 176, 177, 178, 179, 180, 181, 182, 183, 184, 185, 186, 187, 188, 189, 190, 191, 192, 193, 194, 195, 196, 197, 198, 199, 200, 201, 202, 203, 204, 205, 206, 207, 208, 209, 210, 211, 212, 213, 214, 215, 216, 217, 218, 219, 220, 221, 222, 223, 224, 225, 226, 227, 228, 229, 230, 231, 232, 233, 234, 235, 236, 237, 238, 239, 240, 241, 242, 243, 244, 245, 246, 247, 248, 249, 250, 251, 252, 253, 254, 255, 256, 257, 258, 259, 260, 261, 262, 263, 264, 265, 266, 267, 268, 269, 270, 271, 272, 273, 274, 275, 276, 277, 278, 279, 280, 281, 282, 283, 284, 285, 286, 287, 288, 289, 290, 291, 292, 293, 294, 295, 296, 297, 298, 299, 300, 301, 302, 303, 304, 305, 306, 307, 308, 309, 310, 311, 312, 313, 314, 315, 316, 317, 318, 319, 320, 321, 322, 323, 324, 325, 326, 327, 328, 329, 330, 331, 332, 333, 334, 335, 336, 337, 338, 339, 340, 341, 342, 343, 344, 345, 346, 347, 348, 349, 350, 351, 352, 353, 354, 355, 356, 357, 358, 359, 360, 361, 362, 363, 364, 365, 366, 367, 368, 369, 370, 371] (by decide +kernel) (by decide +kernel)) (goodIn_sub (fun _ h => List.mem_cons_of_mem _ (List.mem_append_left _ (List.mem_append_right _ h))) (by decide +kernel))) (goodIn_sub (fun _ h => List.mem_cons_of_mem _ (List.mem_append_left _ (List.mem_append_left _ (List.mem_append_right _ h)))) (by decide +kernel))) (goodIn_sub (fun _ h => List.mem_cons_of_mem _ (List.mem_append_right _ h)) (by decide +kernel))
set_option maxRecDepth 20000 in
theorem gL_reason_X11_reason : GoodIn wsL_reason (wsV RL 57 RX11 yX11_reason wsX11_reason) := goodIn_app (goodIn_of _ (by decide +kernel)) ggL_reason_X11_reason
theorem dL_reason_0 : decode cL_reason 0 = .ok (.aload_n 2, 1) := by decide +kernel
theorem dL_reason_1 : decode cL_reason 1 = .ok (.iconst 0, 1) := by decide +kernel
theorem dL_reason_2 : decode cL_reason 2 = .ok (.aload_n 0, 1) := by decide +kernel
theorem dL_reason_3 : decode cL_reason 3 = .ok (.iload_n 1, 1) := by decide +kernel
theorem dL_reason_4 : decode cL_reason 4 = .ok (.invokevirtual 57, 3) := by decide +kernel
theorem dL_reason_7 : decode cL_reason 7 = .ok (.i2l, 1) := by decide +kernel
theorem dL_reason_8 : decode cL_reason 8 = .ok (.lastore, 1) := by decide +kernel
theorem dL_reason_9 : decode cL_reason 9 = .ok (.goto 6, 3) := by decide +kernel
theorem dL_reason_12 : decode cL_reason 12 = .ok (.astore_n 3, 1) := by decide +kernel
theorem dL_reason_13 : decode cL_reason 13 = .ok (.iconst 1, 1) := by decide +kernel
theorem dL_reason_14 : decode cL_reason 14 = .ok (.ireturn, 1) := by decide +kernel
theorem dL_reason_15 : decode cL_reason 15 = .ok (.iconst 0, 1) := by decide +kernel
theorem dL_reason_16 : decode cL_reason 16 = .ok (.ireturn, 1) := by decide +kernel
set_option maxRecDepth 20000 in
theorem ggL_netPrice_X11_netPrice : GoodIn wsL_netPrice wsX11_netPrice := goodIn_ca (goodIn_ca (goodIn_ca (goodIn_r _ [6, 7, 8, 9, 10, 11, 12, 13, 14, 15, 16, 17, 18, 5, 19, 20, 21, 22, 23, 24, 25, 26, 27, 28, 29, 30, 31, 32, 33, 34, 35, 36, 37, 38, 39, 40, 41, 42, 43, 44, 45, 46, 47, 48, 49, 50, 51, 52, 53, 54, 55, 56, 57, 58, 59, 60, 61, 62, 63, 64, 65, 66, 67, 68, 69, 70, 71, 72, 73, 74, 75, 76, 77, 78, 79, 80, 81, 82, 83, 84, 85, 86, 87, 88, 89, 90, 91, 92, 93, 94, 95, 96, 97, 98, 99, 100, 101, 102, 103, 104, 105, 106, 107, 108, 109, 110, 111, 112, 113, 114, 115, 116, 117, 118, 119, 120, 121, 122, 123, 124, 125, 126, 127, 128, 129, 130, 131, 132, 133, 134, 135, 136, 137, 138, 139, 140, 141, 142, 143, 144, 145, 146, 147, 148, 149, 150, 151, 152, 153, 154, 155, 156, 157, 158, 159, 160, 161, 162, 163, 164, 165, 166, 167, 168, 169, 170, 171, 172, 173, 174, 175, 176, 177, 178, 179, 180, 181, 182, 183, 184, 185, 186, 187, 188, 189, 190, 191, 192, 193, 194, 195, 196, 197, 198, 199, 200, 201, 202, 203, 204, 205, 206, 207, 208, 209, 210, 211, 212, 213, 214, 215, 216, 217, 218, 219, 220, 221, 222, 223, 224, 225, 226, 227, 228, 229, 230, 231, 232, 233, 234, 235, 236, 237, 238, 239, 240, 241, 242, 243, 244, 245, 246, 247, 248, 249, 250, 251, 252, 253, 254, 255, 256, 257, 258, 259, 260, 261, 262, 263, 264, 265, 266, 267, 268, 269, 270, 271, 272, 273, 274, 275, 276, 277, 278, 279, 280, 281, 282, 283, 284, 285, 286, 287, 288, 289, 290, 291, 292, 293, 294, 295, 296, 297, 298, 299, 300, 301, 302, 303, 304, 305, 306, 307, 308, 309, 310, 311, 312, 313, 314, 315, 316, 317, 318, 319, 320, 321, 322, 323, 324, 325, 326, 327, 328, 329, 330, 331, 332, 333, 334, 335, 336, 337, 338, 339, 340, 341, 342, 343, 344, 345, 346, 347, 348, 349, 350, 351, 352, 353, 354, 355, 356, 357, 358, 359, 360, 361, 362] (by decide +kernel) (by decide +kernel)) (goodIn_sub (fun _ h => List.mem_cons_of_mem _ (List.mem_append_left _ (List.mem_append_right _ h))) (by decide +kernel))) (goodIn_sub (fun _ h => List.mem_cons_of_mem _ (List.mem_append_left _ (List.mem_append_left _ (List.mem_append_right _ h)))) (by decide +kernel))) (goodIn_sub (fun _ h => List.mem_cons_of_mem _ (List.mem_append_right _ h)) (by decide +kernel))
set_option maxRecDepth 20000 in
theorem gL_netPrice_X11_netPrice : GoodIn wsL_netPrice (wsV RL 61 RX11 yX11_netPrice wsX11_netPrice) := goodIn_app (goodIn_of _ (by decide +kernel)) ggL_netPrice_X11_netPrice
theorem dL_netPrice_0 : decode cL_netPrice 0 = .ok (.aload_n 2, 1) := by decide +kernel
theorem dL_netPrice_1 : decode cL_netPrice 1 = .ok (.iconst 0, 1) := by decide +kernel
theorem dL_netPrice_2 : decode cL_netPrice 2 = .ok (.aload_n 0, 1) := by decide +kernel
theorem dL_netPrice_3 : decode cL_netPrice 3 = .ok (.iload_n 1, 1) := by decide +kernel
theorem dL_netPrice_4 : decode cL_netPrice 4 = .ok (.invokevirtual 61, 3) := by decide +kernel
theorem dL_netPrice_7 : decode cL_netPrice 7 = .ok (.i2l, 1) := by decide +kernel
theorem dL_netPrice_8 : decode cL_netPrice 8 = .ok (.lastore, 1) := by decide +kernel
theorem dL_netPrice_9 : decode cL_netPrice 9 = .ok (.goto 6, 3) := by decide +kernel
theorem dL_netPrice_12 : decode cL_netPrice 12 = .ok (.astore_n 3, 1) := by decide +kernel
theorem dL_netPrice_13 : decode cL_netPrice 13 = .ok (.iconst 1, 1) := by decide +kernel
theorem dL_netPrice_14 : decode cL_netPrice 14 = .ok (.ireturn, 1) := by decide +kernel
theorem dL_netPrice_15 : decode cL_netPrice 15 = .ok (.iconst 0, 1) := by decide +kernel
theorem dL_netPrice_16 : decode cL_netPrice 16 = .ok (.ireturn, 1) := by decide +kernel
set_option maxRecDepth 20000 in
theorem ggL_sell_X11_sell : GoodIn wsL_sell wsX11_sell := goodIn_ca (goodIn_ca (goodIn_ca (goodIn_r _ [6, 7, 8, 9, 10, 11, 12, 13, 14, 15, 16, 17, 18, 19, 20, 21, 22, 23, 24, 5, 25, 26, 27, 28, 29, 30, 31, 32, 33, 34, 35, 36, 37, 38, 39, 40, 41, 42, 43, 44, 45, 46, 47, 48, 49, 50, 51, 52, 53, 54, 55, 56, 57, 58, 59, 60, 61, 62, 63, 64, 65, 66, 67, 68, 69, 70, 71, 72, 73, 74, 75, 76, 77, 78, 79, 80, 81, 82, 83, 84, 85, 86, 87, 88, 89, 90, 91, 92, 93, 94, 95, 96, 97, 98, 99, 100, 101, 102, 103, 104, 105, 106, 107, 108, 109, 110, 111, 112, 113, 114, 115, 116, 117, 118, 119, 120, 121, 122, 123, 124, 125, 126, 127, 128, 129, 130, 131, 132, 133, 134, 135, 136, 137, 138, 139, 140, 141, 142, 143, 144, 145, 146, 147, 148, 149, 150, 151, 152, 153, 154, 155, 156, 157, 158, 159, 160, 161, 162, 163, 164, 165, 166, 167, 168, 169, 170, 171, 172, 173, 174, 175, 176, 177, 178, 179, 180, 181, 182, 183, 184, 185, 186, 187, 188, 189, 190, 191, 192, 193, 194, 195, 196, 197, 198, 199, 200, 201, 202, 203, 204, 205, 206, 207, 208, 209, 210, 211, 212, 213, 214, 215, 216, 217, 218, 219, 220, 221, 222, 223, 224, 225, 226, 227, 228, 229, 230, 231, 232, 233, 234, 235, 236, 237, 238, 239, 240, 241, 242, 243, 244, 245, 246, 247, 248, 249, 250, 251, 252, 253, 254, 255, 256, 257, 258, 259, 260, 261, 262, 263, 264, 265, 266, 267, 268, 269, 270, 271, 272, 273, 274, 275, 276, 277, 278, 279, 280, 281, 282, 283, 284, 285, 286, 287, 288, 289, 290, 291, 292, 293, 294, 295, 296, 297, 298, 299, 300, 301, 302, 303, 304, 305, 306, 307, 308, 309, 310, 311, 312, 313, 314, 315, 316, 317, 318, 319, 320, 321, 322, 323, 324, 325, 326, 327, 328, 329, 330, 331, 332, 333, 334, 335, 336, 337, 338, 339, 340, 341, 342, 343, 344, 345, 346, 347, 348, 349, 350, 351, 352, 353, 354, 355, 356, 357, 358, 359, 360, 361, 362, 363, 364, 365, 366, 367, 368, 369, 370, 371, 372, 373, 374, 375, 376, 377, 378, 379, 380, 381, 382, 383, 384, 385, 386, 387, 388, 389, 390, 391, 392, 393, 394, 395, 396, 397, 398, 399, 400, 401, 402, 403, 404, 405, 406, 407, 408, 409] (by decide +kernel) (by decide +kernel)) (goodIn_sub (fun _ h => List.mem_cons_of_mem _ (List.mem_append_left _ (List.mem_append_right _ h))) (by decide +kernel))) (goodIn_sub (fun _ h => List.mem_cons_of_mem _ (List.mem_append_left _ (List.mem_append_left _ (List.mem_append_right _ h)))) (by decide +kernel))) (goodIn_sub (fun _ h => List.mem_cons_of_mem _ (List.mem_append_right _ h)) (by decide +kernel))
set_option maxRecDepth 20000 in
theorem gL_sell_X11_sell : GoodIn wsL_sell (wsV RL 64 RX11 yX11_sell wsX11_sell) := goodIn_app (goodIn_of _ (by decide +kernel)) ggL_sell_X11_sell
theorem dL_sell_0 : decode cL_sell 0 = .ok (.aload_n 1, 1) := by decide +kernel
theorem dL_sell_1 : decode cL_sell 1 = .ok (.iconst 0, 1) := by decide +kernel
theorem dL_sell_2 : decode cL_sell 2 = .ok (.aload_n 0, 1) := by decide +kernel
theorem dL_sell_3 : decode cL_sell 3 = .ok (.invokevirtual 64, 3) := by decide +kernel
theorem dL_sell_6 : decode cL_sell 6 = .ok (.i2l, 1) := by decide +kernel
theorem dL_sell_7 : decode cL_sell 7 = .ok (.lastore, 1) := by decide +kernel
theorem dL_sell_8 : decode cL_sell 8 = .ok (.goto 6, 3) := by decide +kernel
theorem dL_sell_11 : decode cL_sell 11 = .ok (.astore_n 2, 1) := by decide +kernel
theorem dL_sell_12 : decode cL_sell 12 = .ok (.iconst 1, 1) := by decide +kernel
theorem dL_sell_13 : decode cL_sell 13 = .ok (.ireturn, 1) := by decide +kernel
theorem dL_sell_14 : decode cL_sell 14 = .ok (.iconst 0, 1) := by decide +kernel
theorem dL_sell_15 : decode cL_sell 15 = .ok (.ireturn, 1) := by decide +kernel
set_option maxRecDepth 20000 in
theorem ggL_giveBack_X11_giveBack : GoodIn wsL_giveBack wsX11_giveBack := goodIn_ca (goodIn_ca (goodIn_ca (goodIn_r _ [7, 8, 9, 10, 11, 12, 13, 14, 15, 16, 17, 18, 19, 20, 21, 22, 23, 24, 25, 26, 27, 28, 29, 30, 6, 31, 32, 33, 34, 35, 36, 37, 38, 39, 40, 41, 42, 43, 44, 45, 46, 47] (by decide +kernel) (by decide +kernel)) (goodIn_sub (fun _ h => List.mem_cons_of_mem _ (List.mem_append_left _ (List.mem_append_right _ h))) (by decide +kernel))) (goodIn_sub (fun _ h => List.mem_cons_of_mem _ (List.mem_append_right _ h)) (by decide +kernel))) (goodIn_sub (fun _ h => List.mem_cons_of_mem _ (List.mem_append_left _ (List.mem_append_left _ (List.mem_append_right _ h)))) (by decide +kernel))
set_option maxRecDepth 20000 in
theorem gL_giveBack_X11_giveBack : GoodIn wsL_giveBack (wsV RL 67 RX11 yX11_giveBack wsX11_giveBack) := goodIn_app (goodIn_of _ (by decide +kernel)) ggL_giveBack_X11_giveBack
theorem dL_giveBack_0 : decode cL_giveBack 0 = .ok (.aload_n 2, 1) := by decide +kernel
theorem dL_giveBack_1 : decode cL_giveBack 1 = .ok (.iconst 0, 1) := by decide +kernel
theorem dL_giveBack_2 : decode cL_giveBack 2 = .ok (.aload_n 0, 1) := by decide +kernel
theorem dL_giveBack_3 : decode cL_giveBack 3 = .ok (.iload_n 1, 1) := by decide +kernel
theorem dL_giveBack_4 : decode cL_giveBack 4 = .ok (.invokevirtual 67, 3) := by decide +kernel
theorem dL_giveBack_7 : decode cL_giveBack 7 = .ok (.i2l, 1) := by decide +kernel
theorem dL_giveBack_8 : decode cL_giveBack 8 = .ok (.lastore, 1) := by decide +kernel
theorem dL_giveBack_9 : decode cL_giveBack 9 = .ok (.goto 9, 3) := by decide +kernel
theorem dL_giveBack_12 : decode cL_giveBack 12 = .ok (.astore_n 3, 1) := by decide +kernel
theorem dL_giveBack_13 : decode cL_giveBack 13 = .ok (.iconst 1, 1) := by decide +kernel
theorem dL_giveBack_14 : decode cL_giveBack 14 = .ok (.ireturn, 1) := by decide +kernel
theorem dL_giveBack_15 : decode cL_giveBack 15 = .ok (.astore_n 3, 1) := by decide +kernel
theorem dL_giveBack_16 : decode cL_giveBack 16 = .ok (.iconst 2, 1) := by decide +kernel
theorem dL_giveBack_17 : decode cL_giveBack 17 = .ok (.ireturn, 1) := by decide +kernel
theorem dL_giveBack_18 : decode cL_giveBack 18 = .ok (.iconst 0, 1) := by decide +kernel
theorem dL_giveBack_19 : decode cL_giveBack 19 = .ok (.ireturn, 1) := by decide +kernel
set_option maxRecDepth 20000 in
theorem ggL_soldTo_X11_soldTo : GoodIn wsL_soldTo wsX11_soldTo := goodIn_ca (goodIn_ca (goodIn_r _ [6, 7, 8, 9, 10, 11, 12, 13, 14, 15, 16, 17, 18, 19, 20, 21, 5, 22, 23, 24, 25, 26, 27, 28, 29, 30, 31, 32, 33, 34, 35, 36, 37, 38] (by decide +kernel) (by decide +kernel)) (goodIn_sub (fun _ h => List.mem_cons_of_mem _ (List.mem_append_right _ h)) (by decide +kernel))) (goodIn_sub (fun _ h => List.mem_cons_of_mem _ (List.mem_append_left _ (List.mem_append_right _ h))) (by decide +kernel))
set_option maxRecDepth 20000 in
theorem gL_soldTo_X11_soldTo : GoodIn wsL_soldTo (wsV RL 70 RX11 yX11_soldTo wsX11_soldTo) := goodIn_app (goodIn_of _ (by decide +kernel)) ggL_soldTo_X11_soldTo
theorem dL_soldTo_0 : decode cL_soldTo 0 = .ok (.aload_n 2, 1) := by decide +kernel
theorem dL_soldTo_1 : decode cL_soldTo 1 = .ok (.iconst 0, 1) := by decide +kernel
theorem dL_soldTo_2 : decode cL_soldTo 2 = .ok (.aload_n 0, 1) := by decide +kernel
theorem dL_soldTo_3 : decode cL_soldTo 3 = .ok (.iload_n 1, 1) := by decide +kernel
theorem dL_soldTo_4 : decode cL_soldTo 4 = .ok (.invokevirtual 70, 3) := by decide +kernel
theorem dL_soldTo_7 : decode cL_soldTo 7 = .ok (.i2l, 1) := by decide +kernel
theorem dL_soldTo_8 : decode cL_soldTo 8 = .ok (.lastore, 1) := by decide +kernel
theorem dL_soldTo_9 : decode cL_soldTo 9 = .ok (.goto 6, 3) := by decide +kernel
theorem dL_soldTo_12 : decode cL_soldTo 12 = .ok (.astore_n 3, 1) := by decide +kernel
theorem dL_soldTo_13 : decode cL_soldTo 13 = .ok (.iconst 1, 1) := by decide +kernel
theorem dL_soldTo_14 : decode cL_soldTo 14 = .ok (.ireturn, 1) := by decide +kernel
theorem dL_soldTo_15 : decode cL_soldTo 15 = .ok (.iconst 0, 1) := by decide +kernel
theorem dL_soldTo_16 : decode cL_soldTo 16 = .ok (.ireturn, 1) := by decide +kernel
set_option maxRecDepth 20000 in
theorem ggL_discountShare_X11_discountShare : GoodIn wsL_discountShare wsX11_discountShare := goodIn_ca (goodIn_r _ [6, 7, 8, 9, 10, 11, 12, 13, 14, 15, 16, 17, 18, 19, 20, 21, 22, 23, 24, 25, 26, 27, 28, 29, 30, 31, 32, 33, 34, 35, 36] (by decide +kernel) (by decide +kernel)) (goodIn_sub (fun _ h => List.mem_cons_of_mem _ (List.mem_append_right _ h)) (by decide +kernel))
set_option maxRecDepth 20000 in
theorem gL_discountShare_X11_discountShare : GoodIn wsL_discountShare (wsV RL 73 RX11 yX11_discountShare wsX11_discountShare) := goodIn_app (goodIn_of _ (by decide +kernel)) ggL_discountShare_X11_discountShare
theorem dL_discountShare_0 : decode cL_discountShare 0 = .ok (.aload_n 1, 1) := by decide +kernel
theorem dL_discountShare_1 : decode cL_discountShare 1 = .ok (.iconst 0, 1) := by decide +kernel
theorem dL_discountShare_2 : decode cL_discountShare 2 = .ok (.aload_n 0, 1) := by decide +kernel
theorem dL_discountShare_3 : decode cL_discountShare 3 = .ok (.invokevirtual 73, 3) := by decide +kernel
theorem dL_discountShare_6 : decode cL_discountShare 6 = .ok (.f2d, 1) := by decide +kernel
theorem dL_discountShare_7 : decode cL_discountShare 7 = .ok (.dastore, 1) := by decide +kernel
theorem dL_discountShare_8 : decode cL_discountShare 8 = .ok (.goto 6, 3) := by decide +kernel
theorem dL_discountShare_11 : decode cL_discountShare 11 = .ok (.astore_n 2, 1) := by decide +kernel
theorem dL_discountShare_12 : decode cL_discountShare 12 = .ok (.iconst 1, 1) := by decide +kernel
theorem dL_discountShare_13 : decode cL_discountShare 13 = .ok (.ireturn, 1) := by decide +kernel
theorem dL_discountShare_14 : decode cL_discountShare 14 = .ok (.iconst 0, 1) := by decide +kernel
theorem dL_discountShare_15 : decode cL_discountShare 15 = .ok (.ireturn, 1) := by decide +kernel
set_option maxRecDepth 20000 in
theorem ggL_meanNetPrice_X11_meanNetPrice : GoodIn wsL_meanNetPrice wsX11_meanNetPrice := goodIn_ca (goodIn_r _ [6, 7, 8, 9, 10, 11, 12, 13, 14, 15, 16, 17, 18, 19, 20, 21, 22, 23, 24, 25, 26, 27, 28, 29, 30, 31, 32, 33, 34, 35, 36] (by decide +kernel) (by decide +kernel)) (goodIn_sub (fun _ h => List.mem_cons_of_mem _ (List.mem_append_right _ h)) (by decide +kernel))
set_option maxRecDepth 20000 in
theorem gL_meanNetPrice_X11_meanNetPrice : GoodIn wsL_meanNetPrice (wsV RL 79 RX11 yX11_meanNetPrice wsX11_meanNetPrice) := goodIn_app (goodIn_of _ (by decide +kernel)) ggL_meanNetPrice_X11_meanNetPrice
theorem dL_meanNetPrice_0 : decode cL_meanNetPrice 0 = .ok (.aload_n 1, 1) := by decide +kernel
theorem dL_meanNetPrice_1 : decode cL_meanNetPrice 1 = .ok (.iconst 0, 1) := by decide +kernel
theorem dL_meanNetPrice_2 : decode cL_meanNetPrice 2 = .ok (.aload_n 0, 1) := by decide +kernel
theorem dL_meanNetPrice_3 : decode cL_meanNetPrice 3 = .ok (.invokevirtual 79, 3) := by decide +kernel
theorem dL_meanNetPrice_6 : decode cL_meanNetPrice 6 = .ok (.dastore, 1) := by decide +kernel
theorem dL_meanNetPrice_7 : decode cL_meanNetPrice 7 = .ok (.goto 6, 3) := by decide +kernel
theorem dL_meanNetPrice_10 : decode cL_meanNetPrice 10 = .ok (.astore_n 2, 1) := by decide +kernel
theorem dL_meanNetPrice_11 : decode cL_meanNetPrice 11 = .ok (.iconst 1, 1) := by decide +kernel
theorem dL_meanNetPrice_12 : decode cL_meanNetPrice 12 = .ok (.ireturn, 1) := by decide +kernel
theorem dL_meanNetPrice_13 : decode cL_meanNetPrice 13 = .ok (.iconst 0, 1) := by decide +kernel
theorem dL_meanNetPrice_14 : decode cL_meanNetPrice 14 = .ok (.ireturn, 1) := by decide +kernel
set_option maxRecDepth 20000 in
theorem ggL_law_X11_init : GoodIn wsL_law wsX11_init := goodIn_r _ [10, 11, 12, 13, 14, 15, 16, 17, 18, 19, 20, 21, 22, 23, 24, 25, 26, 27, 28, 29, 30, 31, 32, 33, 34, 35, 36, 37, 38, 39, 40, 41, 42, 43, 44, 45, 46, 47, 48, 49, 50, 51, 52, 53, 54, 55, 56, 57, 58, 59, 60, 61, 62, 63, 64, 65, 66, 67, 68, 69, 70, 71, 72, 73, 74, 75, 76, 77, 78, 79, 80, 81, 82, 83, 84, 85, 86, 87, 1035, 1036, 1037, 1038, 1039, 991, 992, 993, 994, 995, 996, 997, 1040, 1041, 1042, 1043, 1044, 1045, 1046, 1047, 1048, 1049, 1050, 1051, 1052, 1053, 1054, 1055, 1056, 1057, 1058, 1059, 1060, 1061, 1062, 1063, 1064, 1065, 1066, 1067, 1068, 1069, 1070, 1071, 1072, 1073, 1074, 1075] (by decide +kernel) (by decide +kernel)
set_option maxRecDepth 20000 in
theorem gL_law_X11_init : GoodIn wsL_law (wsX11_init) := ggL_law_X11_init
set_option maxRecDepth 20000 in
theorem ggL_law_X12_init : GoodIn wsL_law wsX12_init := goodIn_r _ [90, 91, 12, 13, 37, 92, 93, 94, 95, 96, 97, 98, 99, 100, 101, 102, 103, 104, 105, 106, 107, 108, 109, 110, 111, 112, 113, 114, 115, 116, 117, 83, 118, 998, 999, 1000, 1001, 1002, 1003, 1004, 1005, 1006, 1007, 1008, 1009, 1010, 1011, 1012, 1013, 1014, 1015, 1016, 1017, 1018, 1019, 1020, 1021, 1022, 1023, 1024, 1025, 1026, 1027, 1028, 1029, 1030, 1031, 1032, 1033, 1034] (by decide +kernel) (by decide +kernel)
set_option maxRecDepth 20000 in
theorem gL_law_X12_init : GoodIn wsL_law (wsX12_init) := ggL_law_X12_init
set_option maxRecDepth 20000 in
theorem ggL_law_L_put : GoodIn wsL_law wsL_put := goodIn_ca (goodIn_ca (goodIn_ca (goodIn_r _ [122, 123, 124, 125, 126, 127, 2, 128, 129, 130, 131, 132, 17, 133, 134, 135, 136, 137, 138, 139, 16, 140, 141, 142, 143, 144, 145, 146, 38, 39, 40, 147, 148, 991, 992, 993, 994, 995, 996, 997, 1035, 1036, 1037, 1038, 1039] (by decide +kernel) (by decide +kernel)) (goodIn_sub (fun _ h => List.mem_append_left _ (List.mem_append_left _ (List.mem_append_left _ (List.mem_append_left _ (List.mem_append_left _ (List.mem_append_left _ (List.mem_append_left _ (List.mem_append_right _ h)))))))) (by decide +kernel))) (goodIn_sub (fun _ h => List.mem_append_left _ (List.mem_append_left _ (List.mem_append_left _ (List.mem_append_left _ (List.mem_append_left _ (List.mem_append_left _ (List.mem_append_right _ h))))))) (by decide +kernel))) (goodIn_sub (fun _ h => List.mem_append_left _ (List.mem_append_left _ (List.mem_append_left _ (List.mem_append_left _ (List.mem_append_left _ (List.mem_append_right _ h)))))) (by decide +kernel))
set_option maxRecDepth 20000 in
theorem gL_law_L_put : GoodIn wsL_law (va_wsS RL 87 yL_put wsL_put) := goodIn_app (goodIn_of _ (by decide +kernel)) ggL_law_L_put
set_option maxRecDepth 20000 in
theorem ggL_law_X12_put : GoodIn wsL_law wsX12_put := goodIn_ca (goodIn_r _ [152, 153, 154, 155, 92, 93, 97, 156, 157, 158, 159, 5, 160, 107, 161, 162, 163, 998, 999, 1000, 1001, 1002, 1003, 1004, 1005, 1006, 1007, 1008, 1009, 1010, 1011, 1012, 1013, 1014, 1015, 1016, 1017, 1018, 1019, 1020, 1021, 1022, 1023, 1024, 1025, 1026, 1027, 1028, 1029, 1030, 1031, 1032, 1033, 1034] (by decide +kernel) (by decide +kernel)) (goodIn_sub (fun _ h => List.mem_append_left _ (List.mem_append_left _ (List.mem_append_left _ (List.mem_append_left _ (List.mem_append_left _ (List.mem_append_left _ (List.mem_append_left _ (List.mem_append_right _ h)))))))) (by decide +kernel))
set_option maxRecDepth 20000 in
theorem gL_law_X12_put : GoodIn wsL_law (wsV RL 92 RX12 yX12_put wsX12_put) := goodIn_app (goodIn_of _ (by decide +kernel)) ggL_law_X12_put
set_option maxRecDepth 20000 in
theorem ggL_law_X12_thrown : GoodIn wsL_law wsX12_thrown := goodIn_r _ [167, 155, 998, 999, 1000, 1001, 1002, 1003, 1004, 1005, 1006, 1007, 1008, 1009, 1010, 1011, 1012, 1013, 1014, 1015, 1016, 1017, 1018, 1019, 1020, 1021, 1022, 1023, 1024, 1025, 1026, 1027, 1028, 1029, 1030, 1031, 1032, 1033, 1034] (by decide +kernel) (by decide +kernel)
set_option maxRecDepth 20000 in
theorem gL_law_X12_thrown : GoodIn wsL_law (wsV RL 93 RX12 yX12_thrown wsX12_thrown) := goodIn_app (goodIn_of _ (by decide +kernel)) ggL_law_X12_thrown
set_option maxRecDepth 20000 in
theorem ggL_law_L_takeOut : GoodIn wsL_law wsL_takeOut := goodIn_ca (goodIn_ca (goodIn_r _ [170, 171, 172, 173, 174, 2, 175, 176, 177, 17, 133, 178, 179, 180, 16, 181, 141, 38, 182, 183, 184, 185, 186, 187, 39, 40, 147, 148, 188, 189, 190, 191, 991, 992, 993, 994, 995, 996, 997, 1035, 1036, 1037, 1038, 1039] (by decide +kernel) (by decide +kernel)) (goodIn_sub (fun _ h => List.mem_append_left _ (List.mem_append_left _ (List.mem_append_left _ (List.mem_append_left _ (List.mem_append_left _ (List.mem_append_left _ (List.mem_append_left _ (List.mem_append_right _ h)))))))) (by decide +kernel))) (goodIn_sub (fun _ h => List.mem_append_left _ (List.mem_append_left _ (List.mem_append_left _ (List.mem_append_left _ (List.mem_append_right _ h))))) (by decide +kernel))
set_option maxRecDepth 20000 in
theorem gL_law_L_takeOut : GoodIn wsL_law (va_wsS RL 96 yL_takeOut wsL_takeOut) := goodIn_app (goodIn_of _ (by decide +kernel)) ggL_law_L_takeOut
set_option maxRecDepth 20000 in
theorem ggL_law_X12_takeOut : GoodIn wsL_law wsX12_takeOut := goodIn_ca (goodIn_r _ [195, 155, 97, 156, 153, 196, 197, 198, 5, 199, 154, 161, 162, 163, 157, 158, 159, 160, 107, 998, 999, 1000, 1001, 1002, 1003, 1004, 1005, 1006, 1007, 1008, 1009, 1010, 1011, 1012, 1013, 1014, 1015, 1016, 1017, 1018, 1019, 1020, 1021, 1022, 1023, 1024, 1025, 1026, 1027, 1028, 1029, 1030, 1031, 1032, 1033, 1034] (by decide +kernel) (by decide +kernel)) (goodIn_sub (fun _ h => List.mem_append_left _ (List.mem_append_left _ (List.mem_append_left _ (List.mem_append_left _ (List.mem_append_left _ (List.mem_append_left _ (List.mem_append_left _ (List.mem_append_right _ h)))))))) (by decide +kernel))
set_option maxRecDepth 20000 in
theorem gL_law_X12_takeOut : GoodIn wsL_law (wsV RL 99 RX12 yX12_takeOut wsX12_takeOut) := goodIn_app (goodIn_of _ (by decide +kernel)) ggL_law_X12_takeOut
set_option maxRecDepth 20000 in
theorem ggL_law_L_setCustomer : GoodIn wsL_law wsL_setCustomer := goodIn_ca (goodIn_ca (goodIn_r _ [202, 123, 203, 204, 205, 2, 206, 129, 130, 207, 133, 134, 135, 136, 991, 992, 993, 994, 995, 996, 997] (by decide +kernel) (by decide +kernel)) (goodIn_sub (fun _ h => List.mem_append_left _ (List.mem_append_left _ (List.mem_append_left _ (List.mem_append_left _ (List.mem_append_left _ (List.mem_append_left _ (List.mem_append_left _ (List.mem_append_right _ h)))))))) (by decide +kernel))) (goodIn_sub (fun _ h => List.mem_append_left _ (List.mem_append_left _ (List.mem_append_left _ (List.mem_append_left _ (List.mem_append_left _ (List.mem_append_left _ (List.mem_append_right _ h))))))) (by decide +kernel))
set_option maxRecDepth 20000 in
theorem gL_law_L_setCustomer : GoodIn wsL_law (va_wsS RL 100 yL_setCustomer wsL_setCustomer) := goodIn_app (goodIn_of _ (by decide +kernel)) ggL_law_L_setCustomer
set_option maxRecDepth 20000 in
theorem ggL_law_X12_setCustomer : GoodIn wsL_law wsX12_setCustomer := goodIn_r _ [211, 155, 212, 156, 161, 162, 5, 163, 998, 999, 1000, 1001, 1002, 1003, 1004, 1005, 1006, 1007, 1008, 1009, 1010, 1011, 1012, 1013, 1014, 1015, 1016, 1017, 1018, 1019, 1020, 1021, 1022, 1023, 1024, 1025, 1026, 1027, 1028, 1029, 1030, 1031, 1032, 1033, 1034] (by decide +kernel) (by decide +kernel)
set_option maxRecDepth 20000 in
theorem gL_law_X12_setCustomer : GoodIn wsL_law (wsV RL 102 RX12 yX12_setCustomer wsX12_setCustomer) := goodIn_app (goodIn_of _ (by decide +kernel)) ggL_law_X12_setCustomer
set_option maxRecDepth 20000 in
theorem ggL_law_X11_items : GoodIn wsL_law wsX11_items := goodIn_r _ [216, 17, 188, 189, 190, 16, 191, 141, 991, 992, 993, 994, 995, 996, 997, 1035, 1036, 1037, 1038, 1039] (by decide +kernel) (by decide +kernel)
set_option maxRecDepth 20000 in
theorem gL_law_X11_items : GoodIn wsL_law (wsV RL 103 RX11 yX11_items wsX11_items) := goodIn_app (goodIn_of _ (by decide +kernel)) ggL_law_X11_items
set_option maxRecDepth 20000 in
theorem ggL_law_X12_items : GoodIn wsL_law wsX12_items := goodIn_ca (goodIn_r _ [220, 155, 153, 157, 158, 159, 5, 160, 154, 97, 107, 998, 999, 1000, 1001, 1002, 1003, 1004, 1005, 1006, 1007, 1008, 1009, 1010, 1011, 1012, 1013, 1014, 1015, 1016, 1017, 1018, 1019, 1020, 1021, 1022, 1023, 1024, 1025, 1026, 1027, 1028, 1029, 1030, 1031, 1032, 1033, 1034] (by decide +kernel) (by decide +kernel)) (goodIn_sub (fun _ h => List.mem_append_left _ (List.mem_append_left _ (List.mem_append_left _ (List.mem_append_left _ (List.mem_append_left _ (List.mem_append_left _ (List.mem_append_left _ (List.mem_append_right _ h)))))))) (by decide +kernel))
set_option maxRecDepth 20000 in
theorem gL_law_X12_items : GoodIn wsL_law (wsV RL 106 RX12 yX12_items wsX12_items) := goodIn_app (goodIn_of _ (by decide +kernel)) ggL_law_X12_items
set_option maxRecDepth 20000 in
theorem ggL_law_X11_sum : GoodIn wsL_law wsX11_sum := goodIn_ca (goodIn_r _ [224, 17, 225, 226, 227, 16, 228, 141, 229, 2, 230, 231, 232, 233, 234, 40, 235, 236, 182, 183, 991, 992, 993, 994, 995, 996, 997, 1035, 1036, 1037, 1038, 1039] (by decide +kernel) (by decide +kernel)) (goodIn_sub (fun _ h => List.mem_append_left _ (List.mem_append_left _ (List.mem_append_left _ (List.mem_append_left _ (List.mem_append_left _ (List.mem_append_left _ (List.mem_append_left _ (List.mem_append_right _ h)))))))) (by decide +kernel))
set_option maxRecDepth 20000 in
theorem gL_law_X11_sum : GoodIn wsL_law (wsV RL 107 RX11 yX11_sum wsX11_sum) := goodIn_app (goodIn_of _ (by decide +kernel)) ggL_law_X11_sum
set_option maxRecDepth 20000 in
theorem ggL_law_X12_sum : GoodIn wsL_law wsX12_sum := goodIn_ca (goodIn_r _ [240, 155, 241, 242, 243, 5, 244, 153, 93, 107, 157, 158, 159, 160, 154, 97, 998, 999, 1000, 1001, 1002, 1003, 1004, 1005, 1006, 1007, 1008, 1009, 1010, 1011, 1012, 1013, 1014, 1015, 1016, 1017, 1018, 1019, 1020, 1021, 1022, 1023, 1024, 1025, 1026, 1027, 1028, 1029, 1030, 1031, 1032, 1033, 1034] (by decide +kernel) (by decide +kernel)) (goodIn_sub (fun _ h => List.mem_append_left _ (List.mem_append_left _ (List.mem_append_left _ (List.mem_append_left _ (List.mem_append_left _ (List.mem_append_left _ (List.mem_append_left _ (List.mem_append_right _ h)))))))) (by decide +kernel))
set_option maxRecDepth 20000 in
theorem gL_law_X12_sum : GoodIn wsL_law (wsV RL 110 RX12 yX12_sum wsX12_sum) := goodIn_app (goodIn_of _ (by decide +kernel)) ggL_law_X12_sum
set_option maxRecDepth 20000 in
theorem ggL_law_L_addPercentage : GoodIn wsL_law wsL_addPercentage := goodIn_ca (goodIn_ca (goodIn_ca (goodIn_r _ [247, 123, 124, 248, 249, 250, 2, 251, 129, 130, 131, 132, 21, 252, 253, 254, 134, 135, 136, 255, 256, 257, 258, 259, 260, 20, 261, 262, 263, 264, 265, 266, 267, 268, 269, 270, 271, 272, 12, 13, 273, 274, 275, 276, 277, 278, 133, 279, 280, 281, 282, 45, 46, 47, 48, 283, 284, 285, 286, 287, 288, 289, 290, 182, 183, 147, 148, 291, 292, 293, 294, 295, 296, 297, 298, 299, 300, 301, 302, 303, 304, 305, 306, 307, 308, 309, 310, 311, 312, 313, 314, 315, 991, 992, 993, 994, 995, 996, 997, 1076, 1077, 1078, 1079, 1040, 1041, 1042, 1043, 1044, 1045, 1080, 1081, 1082, 1083, 1084, 1085, 1086, 1087, 1088, 1089, 1090, 1091, 1092, 1093, 1094, 1095, 1096] (by decide +kernel) (by decide +kernel)) (goodIn_sub (fun _ h => List.mem_append_left _ (List.mem_append_left _ (List.mem_append_left _ (List.mem_append_left _ (List.mem_append_left _ (List.mem_append_left _ (List.mem_append_left _ (List.mem_append_right _ h)))))))) (by decide +kernel))) (goodIn_sub (fun _ h => List.mem_append_left _ (List.mem_append_left _ (List.mem_append_left _ (List.mem_append_left _ (List.mem_append_left _ (List.mem_append_left _ (List.mem_append_right _ h))))))) (by decide +kernel))) (goodIn_sub (fun _ h => List.mem_append_left _ (List.mem_append_left _ (List.mem_append_left _ (List.mem_append_left _ (List.mem_append_left _ (List.mem_append_right _ h)))))) (by decide +kernel))
set_option maxRecDepth 20000 in
theorem gL_law_L_addPercentage : GoodIn wsL_law (va_wsS RL 111 yL_addPercentage wsL_addPercentage) := goodIn_app (goodIn_of _ (by decide +kernel)) ggL_law_L_addPercentage
set_option maxRecDepth 20000 in
theorem ggL_law_X12_addPercentage : GoodIn wsL_law wsX12_addPercentage := goodIn_ca (goodIn_r _ [319, 161, 162, 5, 163, 320, 321, 322, 323, 324, 155, 98, 99, 100, 101, 103, 104, 156, 998, 999, 1000, 1001, 1002, 1003, 1004, 1005, 1006, 1007, 1008, 1009, 1010, 1011, 1012, 1013, 1014, 1015, 1016, 1017, 1018, 1019, 1020, 1021, 1022, 1023, 1024, 1025, 1026, 1027, 1028, 1029, 1030, 1031, 1032, 1033, 1034] (by decide +kernel) (by decide +kernel)) (goodIn_sub (fun _ h => List.mem_append_left _ (List.mem_append_left _ (List.mem_append_left _ (List.mem_append_left _ (List.mem_append_left _ (List.mem_append_left _ (List.mem_append_left _ (List.mem_append_right _ h)))))))) (by decide +kernel))
set_option maxRecDepth 20000 in
theorem gL_law_X12_addPercentage : GoodIn wsL_law (wsV RL 114 RX12 yX12_addPercentage wsX12_addPercentage) := goodIn_app (goodIn_of _ (by decide +kernel)) ggL_law_X12_addPercentage
set_option maxRecDepth 20000 in
theorem ggL_law_L_addFreeItem : GoodIn wsL_law wsL_addFreeItem := goodIn_ca (goodIn_ca (goodIn_ca (goodIn_r _ [327, 123, 124, 328, 329, 330, 2, 331, 129, 130, 131, 132, 21, 332, 333, 334, 134, 135, 136, 255, 256, 257, 258, 259, 260, 20, 261, 262, 335, 336, 337, 338, 339, 340, 269, 270, 271, 272, 12, 13, 273, 274, 275, 276, 277, 278, 133, 279, 280, 281, 282, 45, 46, 47, 48, 283, 284, 285, 286, 287, 288, 289, 290, 182, 183, 147, 148, 291, 292, 293, 294, 295, 296, 297, 298, 299, 300, 301, 302, 303, 304, 305, 306, 307, 308, 309, 310, 311, 312, 313, 314, 315, 991, 992, 993, 994, 995, 996, 997, 1089, 1090, 1091, 1092, 1040, 1041, 1042, 1043, 1044, 1045, 1080, 1081, 1082, 1083, 1084, 1085, 1086, 1087, 1088, 1076, 1077, 1078, 1079, 1093, 1094, 1095, 1096] (by decide +kernel) (by decide +kernel)) (goodIn_sub (fun _ h => List.mem_append_left _ (List.mem_append_left _ (List.mem_append_left _ (List.mem_append_left _ (List.mem_append_left _ (List.mem_append_left _ (List.mem_append_left _ (List.mem_append_right _ h)))))))) (by decide +kernel))) (goodIn_sub (fun _ h => List.mem_append_left _ (List.mem_append_left _ (List.mem_append_left _ (List.mem_append_left _ (List.mem_append_left _ (List.mem_append_left _ (List.mem_append_right _ h))))))) (by decide +kernel))) (goodIn_sub (fun _ h => List.mem_append_left _ (List.mem_append_left _ (List.mem_append_left _ (List.mem_append_left _ (List.mem_append_left _ (List.mem_append_right _ h)))))) (by decide +kernel))
set_option maxRecDepth 20000 in
theorem gL_law_L_addFreeItem : GoodIn wsL_law (va_wsS RL 115 yL_addFreeItem wsL_addFreeItem) := goodIn_app (goodIn_of _ (by decide +kernel)) ggL_law_L_addFreeItem
set_option maxRecDepth 20000 in
theorem ggL_law_X12_addFreeItem : GoodIn wsL_law wsX12_addFreeItem := goodIn_ca (goodIn_r _ [344, 161, 162, 5, 163, 320, 321, 322, 323, 324, 155, 98, 99, 100, 101, 103, 104, 156, 998, 999, 1000, 1001, 1002, 1003, 1004, 1005, 1006, 1007, 1008, 1009, 1010, 1011, 1012, 1013, 1014, 1015, 1016, 1017, 1018, 1019, 1020, 1021, 1022, 1023, 1024, 1025, 1026, 1027, 1028, 1029, 1030, 1031, 1032, 1033, 1034] (by decide +kernel) (by decide +kernel)) (goodIn_sub (fun _ h => List.mem_append_left _ (List.mem_append_left _ (List.mem_append_left _ (List.mem_append_left _ (List.mem_append_left _ (List.mem_append_left _ (List.mem_append_left _ (List.mem_append_right _ h)))))))) (by decide +kernel))
set_option maxRecDepth 20000 in
theorem gL_law_X12_addFreeItem : GoodIn wsL_law (wsV RL 117 RX12 yX12_addFreeItem wsX12_addFreeItem) := goodIn_app (goodIn_of _ (by decide +kernel)) ggL_law_X12_addFreeItem
set_option maxRecDepth 20000 in
theorem ggL_law_L_addBundle : GoodIn wsL_law wsL_addBundle := goodIn_ca (goodIn_ca (goodIn_ca (goodIn_r _ [347, 123, 124, 348, 349, 350, 2, 351, 129, 130, 131, 132, 21, 352, 353, 354, 134, 135, 136, 255, 256, 257, 258, 259, 260, 20, 261, 262, 355, 356, 357, 358, 359, 360, 361, 362, 363, 364, 365, 269, 270, 271, 272, 12, 13, 273, 274, 275, 276, 277, 278, 133, 279, 280, 281, 282, 45, 46, 47, 48, 283, 284, 285, 286, 287, 288, 289, 290, 182, 183, 147, 148, 291, 292, 293, 294, 295, 296, 297, 298, 299, 300, 301, 302, 303, 304, 305, 306, 307, 308, 309, 310, 311, 312, 313, 314, 315, 991, 992, 993, 994, 995, 996, 997, 1080, 1081, 1082, 1083, 1084, 1085, 1086, 1087, 1088, 1040, 1041, 1042, 1043, 1044, 1045, 1089, 1090, 1091, 1092, 1076, 1077, 1078, 1079, 1093, 1094, 1095, 1096] (by decide +kernel) (by decide +kernel)) (goodIn_sub (fun _ h => List.mem_append_left _ (List.mem_append_left _ (List.mem_append_left _ (List.mem_append_left _ (List.mem_append_left _ (List.mem_append_left _ (List.mem_append_left _ (List.mem_append_right _ h)))))))) (by decide +kernel))) (goodIn_sub (fun _ h => List.mem_append_left _ (List.mem_append_left _ (List.mem_append_left _ (List.mem_append_left _ (List.mem_append_left _ (List.mem_append_left _ (List.mem_append_right _ h))))))) (by decide +kernel))) (goodIn_sub (fun _ h => List.mem_append_left _ (List.mem_append_left _ (List.mem_append_left _ (List.mem_append_left _ (List.mem_append_left _ (List.mem_append_right _ h)))))) (by decide +kernel))
set_option maxRecDepth 20000 in
theorem gL_law_L_addBundle : GoodIn wsL_law (va_wsS RL 118 yL_addBundle wsL_addBundle) := goodIn_app (goodIn_of _ (by decide +kernel)) ggL_law_L_addBundle
set_option maxRecDepth 20000 in
theorem ggL_law_X12_addBundle : GoodIn wsL_law wsX12_addBundle := goodIn_ca (goodIn_r _ [369, 155, 102, 161, 162, 5, 163, 320, 321, 322, 323, 324, 98, 99, 100, 101, 103, 104, 156, 998, 999, 1000, 1001, 1002, 1003, 1004, 1005, 1006, 1007, 1008, 1009, 1010, 1011, 1012, 1013, 1014, 1015, 1016, 1017, 1018, 1019, 1020, 1021, 1022, 1023, 1024, 1025, 1026, 1027, 1028, 1029, 1030, 1031, 1032, 1033, 1034] (by decide +kernel) (by decide +kernel)) (goodIn_sub (fun _ h => List.mem_append_left _ (List.mem_append_left _ (List.mem_append_left _ (List.mem_append_left _ (List.mem_append_left _ (List.mem_append_left _ (List.mem_append_left _ (List.mem_append_right _ h)))))))) (by decide +kernel))
set_option maxRecDepth 20000 in
theorem gL_law_X12_addBundle : GoodIn wsL_law (wsV RL 121 RX12 yX12_addBundle wsX12_addBundle) := goodIn_app (goodIn_of _ (by decide +kernel)) ggL_law_X12_addBundle
set_option maxRecDepth 20000 in
theorem ggL_law_L_addThreshold : GoodIn wsL_law wsL_addThreshold := goodIn_ca (goodIn_ca (goodIn_ca (goodIn_r _ [372, 123, 124, 373, 374, 375, 2, 376, 129, 130, 131, 132, 21, 377, 378, 301, 134, 135, 136, 255, 256, 257, 258, 259, 260, 20, 261, 262, 379, 380, 381, 303, 315, 382, 269, 270, 271, 272, 12, 13, 273, 274, 275, 276, 277, 278, 133, 279, 280, 281, 282, 45, 46, 47, 48, 283, 284, 285, 286, 287, 288, 289, 290, 182, 183, 147, 148, 291, 292, 293, 294, 295, 296, 297, 298, 299, 300, 302, 304, 305, 306, 307, 308, 309, 310, 311, 312, 313, 314, 991, 992, 993, 994, 995, 996, 997, 1093, 1094, 1095, 1096, 1040, 1041, 1042, 1043, 1044, 1045, 1080, 1081, 1082, 1083, 1084, 1085, 1086, 1087, 1088, 1089, 1090, 1091, 1092, 1076, 1077, 1078, 1079] (by decide +kernel) (by decide +kernel)) (goodIn_sub (fun _ h => List.mem_append_left _ (List.mem_append_left _ (List.mem_append_left _ (List.mem_append_left _ (List.mem_append_left _ (List.mem_append_left _ (List.mem_append_left _ (List.mem_append_right _ h)))))))) (by decide +kernel))) (goodIn_sub (fun _ h => List.mem_append_left _ (List.mem_append_left _ (List.mem_append_left _ (List.mem_append_left _ (List.mem_append_left _ (List.mem_append_left _ (List.mem_append_right _ h))))))) (by decide +kernel))) (goodIn_sub (fun _ h => List.mem_append_left _ (List.mem_append_left _ (List.mem_append_left _ (List.mem_append_left _ (List.mem_append_left _ (List.mem_append_right _ h)))))) (by decide +kernel))
set_option maxRecDepth 20000 in
theorem gL_law_L_addThreshold : GoodIn wsL_law (va_wsS RL 122 yL_addThreshold wsL_addThreshold) := goodIn_app (goodIn_of _ (by decide +kernel)) ggL_law_L_addThreshold
set_option maxRecDepth 20000 in
theorem ggL_law_X12_addThreshold : GoodIn wsL_law wsX12_addThreshold := goodIn_ca (goodIn_r _ [386, 161, 162, 5, 163, 320, 321, 322, 323, 324, 155, 98, 99, 100, 101, 103, 104, 156, 998, 999, 1000, 1001, 1002, 1003, 1004, 1005, 1006, 1007, 1008, 1009, 1010, 1011, 1012, 1013, 1014, 1015, 1016, 1017, 1018, 1019, 1020, 1021, 1022, 1023, 1024, 1025, 1026, 1027, 1028, 1029, 1030, 1031, 1032, 1033, 1034] (by decide +kernel) (by decide +kernel)) (goodIn_sub (fun _ h => List.mem_append_left _ (List.mem_append_left _ (List.mem_append_left _ (List.mem_append_left _ (List.mem_append_left _ (List.mem_append_left _ (List.mem_append_left _ (List.mem_append_right _ h)))))))) (by decide +kernel))
set_option maxRecDepth 20000 in
theorem gL_law_X12_addThreshold : GoodIn wsL_law (wsV RL 124 RX12 yX12_addThreshold wsX12_addThreshold) := goodIn_app (goodIn_of _ (by decide +kernel)) ggL_law_X12_addThreshold
set_option maxRecDepth 20000 in
theorem ggL_law_L_left : GoodIn wsL_law wsL_left := goodIn_ca (goodIn_ca (goodIn_r _ [389, 390, 391, 392, 393, 2, 394, 395, 396, 21, 207, 397, 398, 399, 20, 400, 262, 401, 402, 403, 404, 49, 405, 406, 407, 408, 45, 409, 410, 411, 412, 270, 413, 273, 414, 415, 416, 182, 183, 991, 992, 993, 994, 995, 996, 997, 1040, 1041, 1042, 1043, 1044, 1045, 1080, 1081, 1082, 1083, 1084, 1085, 1086, 1087, 1088, 1089, 1090, 1091, 1092, 1076, 1077, 1078, 1079, 1093, 1094, 1095, 1096] (by decide +kernel) (by decide +kernel)) (goodIn_sub (fun _ h => List.mem_append_left _ (List.mem_append_left _ (List.mem_append_left _ (List.mem_append_left _ (List.mem_append_left _ (List.mem_append_left _ (List.mem_append_left _ (List.mem_append_right _ h)))))))) (by decide +kernel))) (goodIn_sub (fun _ h => List.mem_append_left _ (List.mem_append_left _ (List.mem_append_left _ (List.mem_append_right _ h)))) (by decide +kernel))
set_option maxRecDepth 20000 in
theorem gL_law_L_left : GoodIn wsL_law (va_wsS RL 125 yL_left wsL_left) := goodIn_app (goodIn_of _ (by decide +kernel)) ggL_law_L_left
set_option maxRecDepth 20000 in
theorem ggL_law_X12_left : GoodIn wsL_law wsX12_left := goodIn_ca (goodIn_r _ [420, 324, 155, 161, 162, 5, 163, 421, 422, 423, 424, 103, 106, 212, 998, 999, 1000, 1001, 1002, 1003, 1004, 1005, 1006, 1007, 1008, 1009, 1010, 1011, 1012, 1013, 1014, 1015, 1016, 1017, 1018, 1019, 1020, 1021, 1022, 1023, 1024, 1025, 1026, 1027, 1028, 1029, 1030, 1031, 1032, 1033, 1034] (by decide +kernel) (by decide +kernel)) (goodIn_sub (fun _ h => List.mem_append_left _ (List.mem_append_left _ (List.mem_append_left _ (List.mem_append_left _ (List.mem_append_left _ (List.mem_append_left _ (List.mem_append_left _ (List.mem_append_right _ h)))))))) (by decide +kernel))
set_option maxRecDepth 20000 in
theorem gL_law_X12_left : GoodIn wsL_law (wsV RL 127 RX12 yX12_left wsX12_left) := goodIn_app (goodIn_of _ (by decide +kernel)) ggL_law_X12_left
set_option maxRecDepth 20000 in
theorem ggL_law_X11_offers : GoodIn wsL_law wsX11_offers := goodIn_r _ [428, 21, 429, 430, 431, 20, 432, 262, 991, 992, 993, 994, 995, 996, 997, 1040, 1041, 1042, 1043, 1044, 1045] (by decide +kernel) (by decide +kernel)
set_option maxRecDepth 20000 in
theorem gL_law_X11_offers : GoodIn wsL_law (wsV RL 128 RX11 yX11_offers wsX11_offers) := goodIn_app (goodIn_of _ (by decide +kernel)) ggL_law_X11_offers
set_option maxRecDepth 20000 in
theorem ggL_law_X12_offers : GoodIn wsL_law wsX12_offers := goodIn_r _ [436, 155, 324, 998, 999, 1000, 1001, 1002, 1003, 1004, 1005, 1006, 1007, 1008, 1009, 1010, 1011, 1012, 1013, 1014, 1015, 1016, 1017, 1018, 1019, 1020, 1021, 1022, 1023, 1024, 1025, 1026, 1027, 1028, 1029, 1030, 1031, 1032, 1033, 1034] (by decide +kernel) (by decide +kernel)
set_option maxRecDepth 20000 in
theorem gL_law_X12_offers : GoodIn wsL_law (wsV RL 131 RX12 yX12_offers wsX12_offers) := goodIn_app (goodIn_of _ (by decide +kernel)) ggL_law_X12_offers
set_option maxRecDepth 20000 in
theorem ggL_law_X11_bestDiscount : GoodIn wsL_law wsX11_bestDiscount := goodIn_ca (goodIn_ca (goodIn_r _ [440, 25, 441, 442, 443, 2, 444, 133, 207, 29, 445, 446, 447, 24, 448, 57, 63, 64, 58, 449, 450, 451, 452, 453, 454, 56, 455, 456, 71, 457, 189, 190, 16, 191, 141, 147, 148, 458, 430, 431, 20, 432, 262, 459, 402, 403, 404, 49, 405, 406, 407, 408, 45, 409, 410, 411, 412, 270, 413, 273, 414, 415, 416, 182, 183, 460, 461, 462, 463, 464, 229, 230, 465, 226, 227, 228, 466, 467, 468, 469, 470, 471, 472, 473, 474, 475, 476, 477, 354, 478, 360, 479, 480, 481, 334, 482, 339, 483, 484, 254, 485, 486, 487, 488, 489, 490, 491, 492, 493, 358, 362, 359, 363, 364, 361, 494, 495, 496, 497, 39, 235, 236, 498, 232, 233, 234, 40, 499, 500, 501, 502, 338, 503, 504, 505, 506, 507, 508, 509, 510, 511, 512, 513, 514, 266, 267, 515, 516, 517, 518, 519, 520, 521, 522, 68, 69, 70, 523, 524, 525, 526, 527, 528, 529, 59, 530, 531, 532, 533, 48, 534, 535, 536, 537, 60, 538, 539, 540, 541, 542, 543, 544, 545, 546, 547, 548, 549, 550, 551, 552, 553, 554, 555, 556, 557, 61, 558, 559, 560, 561, 562, 563, 564, 565, 566, 567, 568, 569, 46, 570, 571, 572, 573, 47, 574, 575, 576, 577, 578, 579, 580, 581, 582, 583, 584, 585, 586, 62, 587, 588, 589, 590, 591, 592, 593, 594, 595, 596, 597, 598, 599, 600, 601, 602, 603, 604, 605, 28, 606, 76, 78, 79, 607, 608, 609, 610, 611, 612, 613, 614, 615, 135, 136, 616, 617, 618, 619, 620, 621, 622, 623, 624, 625, 626, 627, 628, 77, 629, 630, 631, 632, 633, 634, 635, 636, 637, 638, 639, 640, 641, 991, 992, 993, 994, 995, 996, 997, 1046, 1047, 1048, 1049, 1050, 1051, 1052, 1053, 1054, 1055, 1056, 1057, 1071, 1072, 1073, 1074, 1075, 1035, 1036, 1037, 1038, 1039, 1040, 1041, 1042, 1043, 1044, 1045, 1080, 1081, 1082, 1083, 1084, 1085, 1086, 1087, 1088, 1089, 1090, 1091, 1092, 1076, 1077, 1078, 1079, 1093, 1094, 1095, 1096, 1058, 1059, 1060, 1061] (by decide +kernel) (by decide +kernel)) (goodIn_sub (fun _ h => List.mem_append_left _ (List.mem_append_left _ (List.mem_append_left _ (List.mem_append_left _ (List.mem_append_left _ (List.mem_append_left _ (List.mem_append_left _ (List.mem_append_right _ h)))))))) (by decide +kernel))) (goodIn_sub (fun _ h => List.mem_append_left _ (List.mem_append_left _ (List.mem_append_right _ h))) (by decide +kernel))
set_option maxRecDepth 20000 in
theorem gL_law_X11_bestDiscount : GoodIn wsL_law (wsV RL 132 RX11 yX11_bestDiscount wsX11_bestDiscount) := goodIn_app (goodIn_of _ (by decide +kernel)) ggL_law_X11_bestDiscount
set_option maxRecDepth 20000 in
theorem ggL_law_X12_bestDiscount : GoodIn wsL_law wsX12_bestDiscount := goodIn_ca (goodIn_ca (goodIn_r _ [645, 155, 646, 647, 648, 649, 5, 650, 156, 324, 109, 110, 651, 241, 242, 243, 244, 153, 93, 107, 157, 158, 159, 160, 154, 97, 652, 653, 654, 655, 113, 98, 656, 539, 510, 540, 421, 422, 423, 424, 103, 106, 212, 657, 658, 659, 660, 661, 662, 663, 664, 665, 467, 468, 469, 470, 471, 472, 666, 667, 668, 669, 100, 101, 670, 671, 672, 673, 92, 674, 675, 676, 677, 99, 678, 679, 680, 681, 682, 509, 511, 102, 683, 684, 685, 686, 687, 688, 689, 690, 691, 692, 114, 108, 115, 116, 111, 117, 112, 693, 694, 695, 696, 104, 118, 697, 698, 699, 700, 701, 702, 703, 704, 705, 706, 707, 708, 709, 710, 711, 712, 713, 714, 715, 716, 717, 718, 719, 720, 94, 998, 999, 1000, 1001, 1002, 1003, 1004, 1005, 1006, 1007, 1008, 1009, 1010, 1011, 1012, 1013, 1014, 1015, 1016, 1017, 1018, 1019, 1020, 1021, 1022, 1023, 1024, 1025, 1026, 1027, 1028, 1029, 1030, 1031, 1032, 1033, 1034] (by decide +kernel) (by decide +kernel)) (goodIn_sub (fun _ h => List.mem_append_left _ (List.mem_append_left _ (List.mem_append_left _ (List.mem_append_left _ (List.mem_append_left _ (List.mem_append_left _ (List.mem_append_left _ (List.mem_append_right _ h)))))))) (by decide +kernel))) (goodIn_sub (fun _ h => List.mem_append_left _ (List.mem_append_left _ (List.mem_append_right _ h))) (by decide +kernel))
set_option maxRecDepth 20000 in
theorem gL_law_X12_bestDiscount : GoodIn wsL_law (wsV RL 135 RX12 yX12_bestDiscount wsX12_bestDiscount) := goodIn_app (goodIn_of _ (by decide +kernel)) ggL_law_X12_bestDiscount
set_option maxRecDepth 20000 in
theorem ggL_law_L_bestByTrying : GoodIn wsL_law wsL_bestByTrying := goodIn_ca (goodIn_ca (goodIn_ca (goodIn_r _ [723, 724, 725, 726, 727, 2, 728, 729, 730, 17, 25, 188, 189, 190, 16, 191, 141, 441, 442, 443, 444, 133, 207, 29, 445, 446, 447, 24, 448, 57, 63, 64, 58, 449, 450, 451, 452, 453, 454, 56, 455, 456, 71, 457, 147, 148, 458, 430, 431, 20, 432, 262, 459, 402, 403, 404, 49, 405, 406, 407, 408, 45, 409, 410, 411, 412, 270, 413, 273, 414, 415, 416, 182, 183, 460, 461, 462, 463, 464, 229, 230, 465, 226, 227, 228, 466, 467, 468, 469, 470, 471, 472, 473, 474, 475, 476, 477, 354, 478, 360, 479, 480, 481, 334, 482, 339, 483, 484, 254, 485, 486, 487, 488, 489, 490, 491, 492, 493, 358, 362, 359, 363, 364, 361, 494, 495, 496, 497, 39, 235, 236, 498, 232, 233, 234, 40, 499, 500, 501, 502, 338, 503, 504, 505, 506, 507, 508, 509, 510, 511, 512, 513, 514, 266, 267, 515, 516, 517, 518, 519, 520, 521, 522, 68, 69, 70, 523, 524, 525, 526, 527, 528, 529, 59, 530, 531, 532, 533, 48, 534, 535, 536, 537, 60, 538, 539, 540, 541, 542, 543, 544, 545, 546, 547, 548, 549, 550, 551, 552, 553, 554, 555, 556, 557, 61, 558, 559, 560, 561, 562, 563, 564, 565, 566, 567, 568, 569, 46, 570, 571, 572, 573, 47, 574, 575, 576, 577, 578, 579, 580, 581, 582, 583, 584, 585, 586, 62, 587, 588, 589, 590, 591, 592, 593, 594, 595, 596, 597, 598, 599, 600, 601, 602, 603, 604, 605, 28, 606, 76, 78, 79, 607, 608, 609, 610, 611, 612, 613, 614, 615, 135, 136, 616, 617, 618, 619, 620, 621, 622, 623, 624, 625, 626, 627, 628, 77, 629, 630, 631, 632, 633, 634, 635, 636, 637, 731, 732, 733, 734, 735, 736, 737, 738, 739, 740, 741, 742, 991, 992, 993, 994, 995, 996, 997, 1035, 1036, 1037, 1038, 1039, 1046, 1047, 1048, 1049, 1050, 1051, 1052, 1053, 1054, 1055, 1056, 1057, 1071, 1072, 1073, 1074, 1075, 1040, 1041, 1042, 1043, 1044, 1045, 1080, 1081, 1082, 1083, 1084, 1085, 1086, 1087, 1088, 1089, 1090, 1091, 1092, 1076, 1077, 1078, 1079, 1093, 1094, 1095, 1096, 1058, 1059, 1060, 1061] (by decide +kernel) (by decide +kernel)) (goodIn_sub (fun _ h => List.mem_append_left _ (List.mem_append_left _ (List.mem_append_left _ (List.mem_append_left _ (List.mem_append_left _ (List.mem_append_left _ (List.mem_append_left _ (List.mem_append_right _ h)))))))) (by decide +kernel))) (goodIn_sub (fun _ h => List.mem_append_left _ (List.mem_append_right _ h)) (by decide +kernel))) (goodIn_sub (fun _ h => List.mem_append_left _ (List.mem_append_left _ (List.mem_append_right _ h))) (by decide +kernel))
set_option maxRecDepth 20000 in
theorem gL_law_L_bestByTrying : GoodIn wsL_law (va_wsS RL 136 yL_bestByTrying wsL_bestByTrying) := goodIn_app (goodIn_of _ (by decide +kernel)) ggL_law_L_bestByTrying
set_option maxRecDepth 20000 in
theorem ggL_law_X12_bestByTrying : GoodIn wsL_law wsX12_bestByTrying := goodIn_ca (goodIn_ca (goodIn_r _ [746, 153, 157, 158, 159, 5, 160, 154, 97, 107, 747, 748, 749, 750, 155, 751, 643, 644, 645, 646, 647, 648, 649, 650, 156, 324, 109, 110, 651, 241, 242, 243, 244, 93, 652, 653, 654, 655, 113, 98, 656, 539, 510, 540, 421, 422, 423, 424, 103, 106, 212, 657, 658, 659, 660, 661, 662, 663, 664, 665, 467, 468, 469, 470, 471, 472, 666, 667, 668, 669, 100, 101, 670, 671, 672, 673, 92, 674, 675, 676, 677, 99, 678, 679, 680, 681, 682, 509, 511, 102, 683, 684, 685, 686, 687, 688, 689, 690, 691, 692, 114, 108, 115, 116, 111, 117, 112, 693, 694, 695, 696, 104, 118, 697, 698, 699, 700, 701, 702, 703, 704, 705, 706, 707, 708, 709, 710, 711, 712, 713, 714, 715, 716, 717, 718, 719, 720, 94, 998, 999, 1000, 1001, 1002, 1003, 1004, 1005, 1006, 1007, 1008, 1009, 1010, 1011, 1012, 1013, 1014, 1015, 1016, 1017, 1018, 1019, 1020, 1021, 1022, 1023, 1024, 1025, 1026, 1027, 1028, 1029, 1030, 1031, 1032, 1033, 1034] (by decide +kernel) (by decide +kernel)) (goodIn_sub (fun _ h => List.mem_append_left _ (List.mem_append_left _ (List.mem_append_left _ (List.mem_append_left _ (List.mem_append_left _ (List.mem_append_left _ (List.mem_append_left _ (List.mem_append_right _ h)))))))) (by decide +kernel))) (goodIn_sub (fun _ h => List.mem_append_left _ (List.mem_append_left _ (List.mem_append_right _ h))) (by decide +kernel))
set_option maxRecDepth 20000 in
theorem gL_law_X12_bestByTrying : GoodIn wsL_law (wsV RL 139 RX12 yX12_bestByTrying wsX12_bestByTrying) := goodIn_app (goodIn_of _ (by decide +kernel)) ggL_law_X12_bestByTrying
set_option maxRecDepth 20000 in
theorem ggL_law_L_offerOf : GoodIn wsL_law wsL_offerOf := goodIn_ca (goodIn_ca (goodIn_ca (goodIn_r _ [754, 171, 755, 756, 757, 2, 758, 176, 177, 17, 25, 178, 179, 180, 16, 181, 141, 38, 182, 183, 441, 442, 443, 444, 133, 207, 29, 445, 446, 447, 24, 448, 57, 63, 64, 58, 449, 450, 451, 452, 453, 454, 56, 455, 456, 71, 457, 189, 190, 191, 147, 148, 458, 430, 431, 20, 432, 262, 459, 402, 403, 404, 49, 405, 406, 407, 408, 45, 409, 410, 411, 412, 270, 413, 273, 414, 415, 416, 460, 461, 462, 463, 464, 229, 230, 465, 226, 227, 228, 466, 467, 468, 469, 470, 471, 472, 473, 474, 475, 476, 477, 354, 478, 360, 479, 480, 481, 334, 482, 339, 483, 484, 254, 485, 486, 487, 488, 489, 490, 491, 492, 493, 358, 362, 359, 363, 364, 361, 494, 495, 496, 497, 39, 235, 236, 498, 232, 233, 234, 40, 499, 500, 501, 502, 338, 503, 504, 505, 506, 507, 508, 509, 510, 511, 512, 513, 514, 266, 267, 515, 516, 517, 518, 519, 520, 521, 522, 68, 69, 70, 523, 524, 525, 526, 527, 528, 529, 59, 530, 531, 532, 533, 48, 534, 535, 536, 537, 60, 538, 539, 540, 541, 542, 543, 544, 545, 546, 547, 548, 549, 550, 551, 552, 553, 554, 555, 556, 557, 61, 558, 559, 560, 561, 562, 563, 564, 565, 566, 567, 568, 569, 46, 570, 571, 572, 573, 47, 574, 575, 576, 577, 578, 579, 580, 581, 582, 583, 584, 585, 586, 62, 587, 588, 589, 590, 591, 592, 593, 594, 595, 596, 597, 598, 599, 600, 601, 602, 603, 604, 605, 28, 606, 76, 78, 79, 607, 608, 609, 610, 611, 612, 613, 614, 615, 135, 136, 616, 617, 618, 619, 620, 621, 622, 623, 624, 625, 626, 627, 628, 77, 629, 630, 631, 632, 633, 634, 635, 636, 637, 759, 760, 761, 762, 763, 991, 992, 993, 994, 995, 996, 997, 1035, 1036, 1037, 1038, 1039, 1046, 1047, 1048, 1049, 1050, 1051, 1052, 1053, 1054, 1055, 1056, 1057, 1071, 1072, 1073, 1074, 1075, 1040, 1041, 1042, 1043, 1044, 1045, 1080, 1081, 1082, 1083, 1084, 1085, 1086, 1087, 1088, 1089, 1090, 1091, 1092, 1076, 1077, 1078, 1079, 1093, 1094, 1095, 1096, 1058, 1059, 1060, 1061] (by decide +kernel) (by decide +kernel)) (goodIn_sub (fun _ h => List.mem_append_left _ (List.mem_append_left _ (List.mem_append_left _ (List.mem_append_left _ (List.mem_append_left _ (List.mem_append_left _ (List.mem_append_left _ (List.mem_append_right _ h)))))))) (by decide +kernel))) (goodIn_sub (fun _ h => List.mem_append_left _ (List.mem_append_left _ (List.mem_append_left _ (List.mem_append_left _ (List.mem_append_right _ h))))) (by decide +kernel))) (goodIn_sub (fun _ h => List.mem_append_left _ (List.mem_append_left _ (List.mem_append_right _ h))) (by decide +kernel))
set_option maxRecDepth 20000 in
theorem gL_law_L_offerOf : GoodIn wsL_law (va_wsS RL 140 yL_offerOf wsL_offerOf) := goodIn_app (goodIn_of _ (by decide +kernel)) ggL_law_L_offerOf
set_option maxRecDepth 20000 in
theorem ggL_law_X12_offerOf : GoodIn wsL_law wsX12_offerOf := goodIn_ca (goodIn_ca (goodIn_r _ [767, 155, 114, 116, 196, 197, 198, 5, 199, 154, 97, 161, 162, 163, 647, 648, 649, 650, 156, 324, 109, 110, 651, 646, 241, 242, 243, 244, 153, 93, 107, 157, 158, 159, 160, 652, 653, 654, 655, 113, 98, 656, 539, 510, 540, 421, 422, 423, 424, 103, 106, 212, 657, 658, 659, 660, 661, 662, 663, 664, 665, 467, 468, 469, 470, 471, 472, 666, 667, 668, 669, 100, 101, 670, 671, 672, 673, 92, 674, 675, 676, 677, 99, 678, 679, 680, 681, 682, 509, 511, 102, 683, 684, 685, 686, 687, 688, 689, 690, 691, 692, 108, 115, 111, 117, 112, 693, 694, 695, 696, 104, 118, 697, 698, 699, 700, 701, 702, 703, 704, 705, 706, 707, 708, 709, 710, 711, 712, 713, 714, 715, 716, 717, 718, 719, 720, 94, 768, 769, 770, 771, 998, 999, 1000, 1001, 1002, 1003, 1004, 1005, 1006, 1007, 1008, 1009, 1010, 1011, 1012, 1013, 1014, 1015, 1016, 1017, 1018, 1019, 1020, 1021, 1022, 1023, 1024, 1025, 1026, 1027, 1028, 1029, 1030, 1031, 1032, 1033, 1034] (by decide +kernel) (by decide +kernel)) (goodIn_sub (fun _ h => List.mem_append_left _ (List.mem_append_left _ (List.mem_append_left _ (List.mem_append_left _ (List.mem_append_left _ (List.mem_append_left _ (List.mem_append_left _ (List.mem_append_right _ h)))))))) (by decide +kernel))) (goodIn_sub (fun _ h => List.mem_append_left _ (List.mem_append_left _ (List.mem_append_right _ h))) (by decide +kernel))
set_option maxRecDepth 20000 in
theorem gL_law_X12_offerOf : GoodIn wsL_law (wsV RL 142 RX12 yX12_offerOf wsX12_offerOf) := goodIn_app (goodIn_of _ (by decide +kernel)) ggL_law_X12_offerOf
set_option maxRecDepth 20000 in
theorem ggL_law_L_uses : GoodIn wsL_law wsL_uses := goodIn_ca (goodIn_ca (goodIn_ca (goodIn_r _ [774, 390, 775, 776, 777, 2, 778, 395, 396, 21, 25, 397, 398, 399, 20, 400, 262, 441, 442, 443, 444, 133, 207, 29, 445, 446, 447, 24, 448, 57, 63, 64, 58, 449, 450, 451, 452, 453, 454, 56, 455, 456, 71, 457, 189, 190, 16, 191, 141, 147, 148, 458, 430, 431, 432, 459, 402, 403, 404, 49, 405, 406, 407, 408, 45, 409, 410, 411, 412, 270, 413, 273, 414, 415, 416, 182, 183, 460, 461, 462, 463, 464, 229, 230, 465, 226, 227, 228, 466, 467, 468, 469, 470, 471, 472, 473, 474, 475, 476, 477, 354, 478, 360, 479, 480, 481, 334, 482, 339, 483, 484, 254, 485, 486, 487, 488, 489, 490, 491, 492, 493, 358, 362, 359, 363, 364, 361, 494, 495, 496, 497, 39, 235, 236, 498, 232, 233, 234, 40, 499, 500, 501, 502, 338, 503, 504, 505, 506, 507, 508, 509, 510, 511, 512, 513, 514, 266, 267, 515, 516, 517, 518, 519, 520, 521, 522, 68, 69, 70, 523, 524, 525, 526, 527, 528, 529, 59, 530, 531, 532, 533, 48, 534, 535, 536, 537, 60, 538, 539, 540, 541, 542, 543, 544, 545, 546, 547, 548, 549, 550, 551, 552, 553, 554, 555, 556, 557, 61, 558, 559, 560, 561, 562, 563, 564, 565, 566, 567, 568, 569, 46, 570, 571, 572, 573, 47, 574, 575, 576, 577, 578, 579, 580, 581, 582, 583, 584, 585, 586, 62, 587, 588, 589, 590, 591, 592, 593, 594, 595, 596, 597, 598, 599, 600, 601, 602, 603, 604, 605, 28, 606, 76, 78, 79, 607, 608, 609, 610, 611, 612, 613, 614, 615, 135, 136, 616, 617, 618, 619, 620, 621, 622, 623, 624, 625, 626, 627, 628, 77, 629, 630, 631, 632, 633, 634, 635, 636, 637, 779, 780, 781, 782, 763, 991, 992, 993, 994, 995, 996, 997, 1040, 1041, 1042, 1043, 1044, 1045, 1046, 1047, 1048, 1049, 1050, 1051, 1052, 1053, 1054, 1055, 1056, 1057, 1071, 1072, 1073, 1074, 1075, 1035, 1036, 1037, 1038, 1039, 1080, 1081, 1082, 1083, 1084, 1085, 1086, 1087, 1088, 1089, 1090, 1091, 1092, 1076, 1077, 1078, 1079, 1093, 1094, 1095, 1096, 1058, 1059, 1060, 1061] (by decide +kernel) (by decide +kernel)) (goodIn_sub (fun _ h => List.mem_append_left _ (List.mem_append_left _ (List.mem_append_left _ (List.mem_append_left _ (List.mem_append_left _ (List.mem_append_left _ (List.mem_append_left _ (List.mem_append_right _ h)))))))) (by decide +kernel))) (goodIn_sub (fun _ h => List.mem_append_left _ (List.mem_append_left _ (List.mem_append_left _ (List.mem_append_right _ h)))) (by decide +kernel))) (goodIn_sub (fun _ h => List.mem_append_left _ (List.mem_append_left _ (List.mem_append_right _ h))) (by decide +kernel))
set_option maxRecDepth 20000 in
theorem gL_law_L_uses : GoodIn wsL_law (va_wsS RL 143 yL_uses wsL_uses) := goodIn_app (goodIn_of _ (by decide +kernel)) ggL_law_L_uses
set_option maxRecDepth 20000 in
theorem ggL_law_X12_uses : GoodIn wsL_law wsX12_uses := goodIn_ca (goodIn_ca (goodIn_r _ [786, 324, 155, 161, 162, 5, 163, 647, 648, 649, 650, 156, 109, 110, 651, 646, 241, 242, 243, 244, 153, 93, 107, 157, 158, 159, 160, 154, 97, 652, 653, 654, 655, 113, 98, 656, 539, 510, 540, 421, 422, 423, 424, 103, 106, 212, 657, 658, 659, 660, 661, 662, 663, 664, 665, 467, 468, 469, 470, 471, 472, 666, 667, 668, 669, 100, 101, 670, 671, 672, 673, 92, 674, 675, 676, 677, 99, 678, 679, 680, 681, 682, 509, 511, 102, 683, 684, 685, 686, 687, 688, 689, 690, 691, 692, 114, 108, 115, 116, 111, 117, 112, 693, 694, 695, 696, 104, 118, 697, 698, 699, 700, 701, 702, 703, 704, 705, 706, 707, 708, 709, 710, 711, 712, 713, 714, 715, 716, 717, 718, 719, 720, 94, 787, 788, 789, 790, 998, 999, 1000, 1001, 1002, 1003, 1004, 1005, 1006, 1007, 1008, 1009, 1010, 1011, 1012, 1013, 1014, 1015, 1016, 1017, 1018, 1019, 1020, 1021, 1022, 1023, 1024, 1025, 1026, 1027, 1028, 1029, 1030, 1031, 1032, 1033, 1034] (by decide +kernel) (by decide +kernel)) (goodIn_sub (fun _ h => List.mem_append_left _ (List.mem_append_left _ (List.mem_append_left _ (List.mem_append_left _ (List.mem_append_left _ (List.mem_append_left _ (List.mem_append_left _ (List.mem_append_right _ h)))))))) (by decide +kernel))) (goodIn_sub (fun _ h => List.mem_append_left _ (List.mem_append_left _ (List.mem_append_right _ h))) (by decide +kernel))
set_option maxRecDepth 20000 in
theorem gL_law_X12_uses : GoodIn wsL_law (wsV RL 145 RX12 yX12_uses wsX12_uses) := goodIn_app (goodIn_of _ (by decide +kernel)) ggL_law_X12_uses
set_option maxRecDepth 20000 in
theorem ggL_law_L_reason : GoodIn wsL_law wsL_reason := goodIn_ca (goodIn_ca (goodIn_ca (goodIn_r _ [793, 390, 794, 795, 796, 2, 797, 395, 396, 21, 25, 207, 397, 398, 399, 20, 400, 262, 441, 442, 443, 444, 133, 29, 445, 446, 447, 24, 448, 57, 63, 64, 58, 449, 450, 451, 452, 453, 454, 56, 455, 456, 71, 457, 189, 190, 16, 191, 141, 147, 148, 458, 430, 431, 432, 459, 402, 403, 404, 49, 405, 406, 407, 408, 45, 409, 410, 411, 412, 270, 413, 273, 414, 415, 416, 182, 183, 460, 461, 462, 463, 464, 229, 230, 465, 226, 227, 228, 466, 467, 468, 469, 470, 471, 472, 473, 474, 475, 476, 477, 354, 478, 360, 479, 480, 481, 334, 482, 339, 483, 484, 254, 485, 486, 487, 488, 489, 490, 491, 492, 493, 358, 362, 359, 363, 364, 361, 494, 495, 496, 497, 39, 235, 236, 498, 232, 233, 234, 40, 499, 500, 501, 502, 338, 503, 504, 505, 506, 507, 508, 509, 510, 511, 512, 513, 514, 266, 267, 515, 516, 517, 518, 519, 520, 521, 522, 68, 69, 70, 523, 524, 525, 526, 527, 528, 529, 59, 530, 531, 532, 533, 48, 534, 535, 536, 537, 60, 538, 539, 540, 541, 542, 543, 544, 545, 546, 547, 548, 549, 550, 551, 552, 553, 554, 555, 556, 557, 61, 558, 559, 560, 561, 562, 563, 564, 565, 566, 567, 568, 569, 46, 570, 571, 572, 573, 47, 574, 575, 576, 577, 578, 579, 580, 581, 582, 583, 584, 585, 586, 62, 587, 588, 589, 590, 591, 592, 593, 594, 595, 596, 597, 598, 599, 600, 601, 602, 603, 604, 605, 28, 606, 76, 78, 79, 607, 608, 609, 610, 611, 612, 613, 614, 615, 135, 136, 616, 617, 618, 619, 620, 621, 622, 623, 624, 625, 626, 627, 628, 77, 629, 630, 631, 632, 633, 634, 635, 636, 637, 779, 780, 781, 782, 763, 401, 798, 799, 800, 801, 802, 803, 804, 805, 991, 992, 993, 994, 995, 996, 997, 1040, 1041, 1042, 1043, 1044, 1045, 1046, 1047, 1048, 1049, 1050, 1051, 1052, 1053, 1054, 1055, 1056, 1057, 1071, 1072, 1073, 1074, 1075, 1035, 1036, 1037, 1038, 1039, 1080, 1081, 1082, 1083, 1084, 1085, 1086, 1087, 1088, 1089, 1090, 1091, 1092, 1076, 1077, 1078, 1079, 1093, 1094, 1095, 1096, 1058, 1059, 1060, 1061] (by decide +kernel) (by decide +kernel)) (goodIn_sub (fun _ h => List.mem_append_left _ (List.mem_append_left _ (List.mem_append_left _ (List.mem_append_left _ (List.mem_append_left _ (List.mem_append_left _ (List.mem_append_left _ (List.mem_append_right _ h)))))))) (by decide +kernel))) (goodIn_sub (fun _ h => List.mem_append_left _ (List.mem_append_left _ (List.mem_append_left _ (List.mem_append_right _ h)))) (by decide +kernel))) (goodIn_sub (fun _ h => List.mem_append_left _ (List.mem_append_left _ (List.mem_append_right _ h))) (by decide +kernel))
set_option maxRecDepth 20000 in
theorem gL_law_L_reason : GoodIn wsL_law (va_wsS RL 146 yL_reason wsL_reason) := goodIn_app (goodIn_of _ (by decide +kernel)) ggL_law_L_reason
set_option maxRecDepth 20000 in
theorem ggL_law_X12_reason : GoodIn wsL_law wsX12_reason := goodIn_ca (goodIn_ca (goodIn_r _ [809, 324, 155, 104, 161, 162, 5, 163, 647, 648, 649, 650, 156, 109, 110, 651, 646, 241, 242, 243, 244, 153, 93, 107, 157, 158, 159, 160, 154, 97, 652, 653, 654, 655, 113, 98, 656, 539, 510, 540, 421, 422, 423, 424, 103, 106, 212, 657, 658, 659, 660, 661, 662, 663, 664, 665, 467, 468, 469, 470, 471, 472, 666, 667, 668, 669, 100, 101, 670, 671, 672, 673, 92, 674, 675, 676, 677, 99, 678, 679, 680, 681, 682, 509, 511, 102, 683, 684, 685, 686, 687, 688, 689, 690, 691, 692, 114, 108, 115, 116, 111, 117, 112, 693, 694, 695, 696, 118, 697, 698, 699, 700, 701, 702, 703, 704, 705, 706, 707, 708, 709, 710, 711, 712, 713, 714, 715, 716, 717, 718, 719, 720, 94, 787, 788, 789, 790, 810, 811, 812, 813, 998, 999, 1000, 1001, 1002, 1003, 1004, 1005, 1006, 1007, 1008, 1009, 1010, 1011, 1012, 1013, 1014, 1015, 1016, 1017, 1018, 1019, 1020, 1021, 1022, 1023, 1024, 1025, 1026, 1027, 1028, 1029, 1030, 1031, 1032, 1033, 1034] (by decide +kernel) (by decide +kernel)) (goodIn_sub (fun _ h => List.mem_append_left _ (List.mem_append_left _ (List.mem_append_left _ (List.mem_append_left _ (List.mem_append_left _ (List.mem_append_left _ (List.mem_append_left _ (List.mem_append_right _ h)))))))) (by decide +kernel))) (goodIn_sub (fun _ h => List.mem_append_left _ (List.mem_append_left _ (List.mem_append_right _ h))) (by decide +kernel))
set_option maxRecDepth 20000 in
theorem gL_law_X12_reason : GoodIn wsL_law (wsV RL 148 RX12 yX12_reason wsX12_reason) := goodIn_app (goodIn_of _ (by decide +kernel)) ggL_law_X12_reason
set_option maxRecDepth 20000 in
theorem ggL_law_L_netPrice : GoodIn wsL_law wsL_netPrice := goodIn_ca (goodIn_ca (goodIn_ca (goodIn_r _ [816, 171, 817, 818, 819, 2, 820, 176, 177, 17, 29, 178, 179, 180, 16, 181, 141, 38, 182, 183, 441, 442, 443, 444, 133, 25, 207, 445, 446, 447, 24, 448, 57, 63, 64, 58, 449, 450, 451, 452, 453, 454, 56, 455, 456, 71, 457, 189, 190, 191, 147, 148, 458, 430, 431, 20, 432, 262, 459, 402, 403, 404, 49, 405, 406, 407, 408, 45, 409, 410, 411, 412, 270, 413, 273, 414, 415, 416, 460, 461, 462, 463, 464, 229, 230, 465, 226, 227, 228, 466, 467, 468, 469, 470, 471, 472, 473, 474, 475, 476, 477, 354, 478, 360, 479, 480, 481, 334, 482, 339, 483, 484, 254, 485, 486, 487, 488, 489, 490, 491, 492, 493, 358, 362, 359, 363, 364, 361, 494, 495, 496, 497, 39, 235, 236, 498, 232, 233, 234, 40, 499, 500, 501, 502, 338, 503, 504, 505, 506, 507, 508, 509, 510, 511, 512, 513, 514, 266, 267, 515, 516, 517, 518, 519, 520, 521, 522, 68, 69, 70, 523, 524, 525, 526, 527, 528, 529, 59, 530, 531, 532, 533, 48, 534, 535, 536, 537, 60, 538, 539, 540, 541, 542, 543, 544, 545, 546, 547, 548, 549, 550, 551, 552, 553, 554, 555, 556, 557, 61, 558, 559, 560, 561, 562, 563, 564, 565, 566, 567, 568, 569, 46, 570, 571, 572, 573, 47, 574, 575, 576, 577, 578, 579, 580, 581, 582, 583, 584, 585, 586, 62, 587, 588, 589, 590, 591, 592, 593, 594, 595, 596, 597, 598, 599, 600, 601, 602, 603, 604, 605, 28, 606, 76, 78, 79, 607, 608, 609, 610, 611, 612, 613, 614, 615, 135, 136, 616, 617, 618, 619, 620, 621, 622, 623, 624, 625, 626, 627, 628, 77, 629, 630, 631, 632, 633, 634, 635, 636, 637, 821, 822, 823, 824, 991, 992, 993, 994, 995, 996, 997, 1035, 1036, 1037, 1038, 1039, 1046, 1047, 1048, 1049, 1050, 1051, 1052, 1053, 1054, 1055, 1056, 1057, 1071, 1072, 1073, 1074, 1075, 1040, 1041, 1042, 1043, 1044, 1045, 1080, 1081, 1082, 1083, 1084, 1085, 1086, 1087, 1088, 1089, 1090, 1091, 1092, 1076, 1077, 1078, 1079, 1093, 1094, 1095, 1096, 1058, 1059, 1060, 1061] (by decide +kernel) (by decide +kernel)) (goodIn_sub (fun _ h => List.mem_append_left _ (List.mem_append_left _ (List.mem_append_left _ (List.mem_append_left _ (List.mem_append_left _ (List.mem_append_left _ (List.mem_append_left _ (List.mem_append_right _ h)))))))) (by decide +kernel))) (goodIn_sub (fun _ h => List.mem_append_left _ (List.mem_append_left _ (List.mem_append_left _ (List.mem_append_left _ (List.mem_append_right _ h))))) (by decide +kernel))) (goodIn_sub (fun _ h => List.mem_append_left _ (List.mem_append_left _ (List.mem_append_right _ h))) (by decide +kernel))
set_option maxRecDepth 20000 in
theorem gL_law_L_netPrice : GoodIn wsL_law (va_wsS RL 149 yL_netPrice wsL_netPrice) := goodIn_app (goodIn_of _ (by decide +kernel)) ggL_law_L_netPrice
set_option maxRecDepth 20000 in
theorem ggL_law_X12_netPrice : GoodIn wsL_law wsX12_netPrice := goodIn_ca (goodIn_ca (goodIn_r _ [828, 155, 94, 196, 197, 198, 5, 199, 154, 97, 161, 162, 163, 647, 648, 649, 650, 156, 324, 109, 110, 651, 646, 241, 242, 243, 244, 153, 93, 107, 157, 158, 159, 160, 652, 653, 654, 655, 113, 98, 656, 539, 510, 540, 421, 422, 423, 424, 103, 106, 212, 657, 658, 659, 660, 661, 662, 663, 664, 665, 467, 468, 469, 470, 471, 472, 666, 667, 668, 669, 100, 101, 670, 671, 672, 673, 92, 674, 675, 676, 677, 99, 678, 679, 680, 681, 682, 509, 511, 102, 683, 684, 685, 686, 687, 688, 689, 690, 691, 692, 114, 108, 115, 116, 111, 117, 112, 693, 694, 695, 696, 104, 118, 697, 698, 699, 700, 701, 702, 703, 704, 705, 706, 707, 708, 709, 710, 711, 712, 713, 714, 715, 716, 717, 718, 719, 720, 998, 999, 1000, 1001, 1002, 1003, 1004, 1005, 1006, 1007, 1008, 1009, 1010, 1011, 1012, 1013, 1014, 1015, 1016, 1017, 1018, 1019, 1020, 1021, 1022, 1023, 1024, 1025, 1026, 1027, 1028, 1029, 1030, 1031, 1032, 1033, 1034] (by decide +kernel) (by decide +kernel)) (goodIn_sub (fun _ h => List.mem_append_left _ (List.mem_append_left _ (List.mem_append_left _ (List.mem_append_left _ (List.mem_append_left _ (List.mem_append_left _ (List.mem_append_left _ (List.mem_append_right _ h)))))))) (by decide +kernel))) (goodIn_sub (fun _ h => List.mem_append_left _ (List.mem_append_left _ (List.mem_append_right _ h))) (by decide +kernel))
set_option maxRecDepth 20000 in
theorem gL_law_X12_netPrice : GoodIn wsL_law (wsV RL 151 RX12 yX12_netPrice wsX12_netPrice) := goodIn_app (goodIn_of _ (by decide +kernel)) ggL_law_X12_netPrice
set_option maxRecDepth 20000 in
theorem ggL_law_X11_toPay : GoodIn wsL_law wsX11_toPay := goodIn_ca (goodIn_ca (goodIn_r _ [832, 29, 441, 442, 443, 2, 444, 133, 25, 207, 445, 446, 447, 24, 448, 57, 63, 64, 58, 449, 450, 451, 452, 453, 454, 56, 455, 456, 71, 457, 189, 190, 16, 191, 141, 147, 148, 458, 430, 431, 20, 432, 262, 459, 402, 403, 404, 49, 405, 406, 407, 408, 45, 409, 410, 411, 412, 270, 413, 273, 414, 415, 416, 182, 183, 460, 461, 462, 463, 464, 229, 230, 465, 226, 227, 228, 466, 467, 468, 469, 470, 471, 472, 473, 474, 475, 476, 477, 354, 478, 360, 479, 480, 481, 334, 482, 339, 483, 484, 254, 485, 486, 487, 488, 489, 490, 491, 492, 493, 358, 362, 359, 363, 364, 361, 494, 495, 496, 497, 39, 235, 236, 498, 232, 233, 234, 40, 499, 500, 501, 502, 338, 503, 504, 505, 506, 507, 508, 509, 510, 511, 512, 513, 514, 266, 267, 515, 516, 517, 518, 519, 520, 521, 522, 68, 69, 70, 523, 524, 525, 526, 527, 528, 529, 59, 530, 531, 532, 533, 48, 534, 535, 536, 537, 60, 538, 539, 540, 541, 542, 543, 544, 545, 546, 547, 548, 549, 550, 551, 552, 553, 554, 555, 556, 557, 61, 558, 559, 560, 561, 562, 563, 564, 565, 566, 567, 568, 569, 46, 570, 571, 572, 573, 47, 574, 575, 576, 577, 578, 579, 580, 581, 582, 583, 584, 585, 586, 62, 587, 588, 589, 590, 591, 592, 593, 594, 595, 596, 597, 598, 599, 600, 601, 602, 603, 604, 605, 28, 606, 76, 78, 79, 607, 608, 609, 610, 611, 612, 613, 614, 615, 135, 136, 616, 617, 618, 619, 620, 621, 622, 623, 624, 625, 626, 627, 628, 77, 629, 630, 631, 632, 633, 634, 635, 636, 637, 833, 834, 835, 836, 991, 992, 993, 994, 995, 996, 997, 1046, 1047, 1048, 1049, 1050, 1051, 1052, 1053, 1054, 1055, 1056, 1057, 1071, 1072, 1073, 1074, 1075, 1035, 1036, 1037, 1038, 1039, 1040, 1041, 1042, 1043, 1044, 1045, 1080, 1081, 1082, 1083, 1084, 1085, 1086, 1087, 1088, 1089, 1090, 1091, 1092, 1076, 1077, 1078, 1079, 1093, 1094, 1095, 1096, 1058, 1059, 1060, 1061] (by decide +kernel) (by decide +kernel)) (goodIn_sub (fun _ h => List.mem_append_left _ (List.mem_append_left _ (List.mem_append_left _ (List.mem_append_left _ (List.mem_append_left _ (List.mem_append_left _ (List.mem_append_left _ (List.mem_append_right _ h)))))))) (by decide +kernel))) (goodIn_sub (fun _ h => List.mem_append_left _ (List.mem_append_left _ (List.mem_append_right _ h))) (by decide +kernel))
set_option maxRecDepth 20000 in
theorem gL_law_X11_toPay : GoodIn wsL_law (wsV RL 152 RX11 yX11_toPay wsX11_toPay) := goodIn_app (goodIn_of _ (by decide +kernel)) ggL_law_X11_toPay
set_option maxRecDepth 20000 in
theorem ggL_law_X12_toPay : GoodIn wsL_law wsX12_toPay := goodIn_ca (goodIn_ca (goodIn_r _ [840, 155, 841, 842, 843, 5, 844, 153, 94, 107, 647, 648, 649, 650, 156, 324, 109, 110, 651, 646, 241, 242, 243, 244, 93, 157, 158, 159, 160, 154, 97, 652, 653, 654, 655, 113, 98, 656, 539, 510, 540, 421, 422, 423, 424, 103, 106, 212, 657, 658, 659, 660, 661, 662, 663, 664, 665, 467, 468, 469, 470, 471, 472, 666, 667, 668, 669, 100, 101, 670, 671, 672, 673, 92, 674, 675, 676, 677, 99, 678, 679, 680, 681, 682, 509, 511, 102, 683, 684, 685, 686, 687, 688, 689, 690, 691, 692, 114, 108, 115, 116, 111, 117, 112, 693, 694, 695, 696, 104, 118, 697, 698, 699, 700, 701, 702, 703, 704, 705, 706, 707, 708, 709, 710, 711, 712, 713, 714, 715, 716, 717, 718, 719, 720, 998, 999, 1000, 1001, 1002, 1003, 1004, 1005, 1006, 1007, 1008, 1009, 1010, 1011, 1012, 1013, 1014, 1015, 1016, 1017, 1018, 1019, 1020, 1021, 1022, 1023, 1024, 1025, 1026, 1027, 1028, 1029, 1030, 1031, 1032, 1033, 1034] (by decide +kernel) (by decide +kernel)) (goodIn_sub (fun _ h => List.mem_append_left _ (List.mem_append_left _ (List.mem_append_left _ (List.mem_append_left _ (List.mem_append_left _ (List.mem_append_left _ (List.mem_append_left _ (List.mem_append_right _ h)))))))) (by decide +kernel))) (goodIn_sub (fun _ h => List.mem_append_left _ (List.mem_append_left _ (List.mem_append_right _ h))) (by decide +kernel))
set_option maxRecDepth 20000 in
theorem gL_law_X12_toPay : GoodIn wsL_law (wsV RL 155 RX12 yX12_toPay wsX12_toPay) := goodIn_app (goodIn_of _ (by decide +kernel)) ggL_law_X12_toPay
set_option maxRecDepth 20000 in
theorem ggL_law_L_sell : GoodIn wsL_law wsL_sell := goodIn_ca (goodIn_ca (goodIn_ca (goodIn_r _ [847, 124, 848, 849, 850, 2, 851, 131, 132, 17, 29, 33, 207, 21, 25, 133, 188, 189, 190, 16, 191, 141, 441, 442, 443, 444, 445, 446, 447, 24, 448, 57, 63, 64, 58, 449, 450, 451, 452, 453, 454, 56, 455, 456, 71, 457, 147, 148, 458, 430, 431, 20, 432, 262, 459, 402, 403, 404, 49, 405, 406, 407, 408, 45, 409, 410, 411, 412, 270, 413, 273, 414, 415, 416, 182, 183, 460, 461, 462, 463, 464, 229, 230, 465, 226, 227, 228, 466, 467, 468, 469, 470, 471, 472, 473, 474, 475, 476, 477, 354, 478, 360, 479, 480, 481, 334, 482, 339, 483, 484, 254, 485, 486, 487, 488, 489, 490, 491, 492, 493, 358, 362, 359, 363, 364, 361, 494, 495, 496, 497, 39, 235, 236, 498, 232, 233, 234, 40, 499, 500, 501, 502, 338, 503, 504, 505, 506, 507, 508, 509, 510, 511, 512, 513, 514, 266, 267, 515, 516, 517, 518, 519, 520, 521, 522, 68, 69, 70, 523, 524, 525, 526, 527, 528, 529, 59, 530, 531, 532, 533, 48, 534, 535, 536, 537, 60, 538, 539, 540, 541, 542, 543, 544, 545, 546, 547, 548, 549, 550, 551, 552, 553, 554, 555, 556, 557, 61, 558, 559, 560, 561, 562, 563, 564, 565, 566, 567, 568, 569, 46, 570, 571, 572, 573, 47, 574, 575, 576, 577, 578, 579, 580, 581, 582, 583, 584, 585, 586, 62, 587, 588, 589, 590, 591, 592, 593, 594, 595, 596, 597, 598, 599, 600, 601, 602, 603, 604, 605, 28, 606, 76, 78, 79, 607, 608, 609, 610, 611, 612, 613, 614, 615, 135, 136, 616, 617, 618, 619, 620, 621, 622, 623, 624, 625, 626, 627, 628, 77, 629, 630, 631, 632, 633, 634, 635, 636, 637, 833, 834, 835, 836, 852, 853, 854, 855, 38, 856, 821, 822, 823, 824, 857, 858, 859, 32, 860, 84, 86, 87, 861, 862, 863, 429, 779, 780, 781, 782, 763, 864, 865, 866, 867, 868, 869, 870, 871, 872, 873, 874, 875, 876, 991, 992, 993, 994, 995, 996, 997, 1035, 1036, 1037, 1038, 1039, 1046, 1047, 1048, 1049, 1050, 1051, 1052, 1053, 1054, 1055, 1056, 1057, 1071, 1072, 1073, 1074, 1075, 1040, 1041, 1042, 1043, 1044, 1045, 1080, 1081, 1082, 1083, 1084, 1085, 1086, 1087, 1088, 1089, 1090, 1091, 1092, 1076, 1077, 1078, 1079, 1093, 1094, 1095, 1096, 1058, 1059, 1060, 1061, 1062, 1063, 1064, 1065, 1066, 1067, 1068, 1069, 1070] (by decide +kernel) (by decide +kernel)) (goodIn_sub (fun _ h => List.mem_append_left _ (List.mem_append_left _ (List.mem_append_left _ (List.mem_append_left _ (List.mem_append_left _ (List.mem_append_left _ (List.mem_append_left _ (List.mem_append_right _ h)))))))) (by decide +kernel))) (goodIn_sub (fun _ h => List.mem_append_left _ (List.mem_append_left _ (List.mem_append_left _ (List.mem_append_left _ (List.mem_append_left _ (List.mem_append_right _ h)))))) (by decide +kernel))) (goodIn_sub (fun _ h => List.mem_append_left _ (List.mem_append_left _ (List.mem_append_right _ h))) (by decide +kernel))
set_option maxRecDepth 20000 in
theorem gL_law_L_sell : GoodIn wsL_law (va_wsS RL 156 yL_sell wsL_sell) := goodIn_app (goodIn_of _ (by decide +kernel)) ggL_law_L_sell
set_option maxRecDepth 20000 in
theorem ggL_law_X12_sell : GoodIn wsL_law wsX12_sell := goodIn_ca (goodIn_ca (goodIn_r _ [880, 153, 155, 324, 106, 212, 881, 97, 107, 95, 882, 156, 157, 158, 159, 5, 160, 154, 841, 842, 843, 844, 94, 647, 648, 649, 650, 109, 110, 651, 646, 241, 242, 243, 244, 93, 652, 653, 654, 655, 113, 98, 656, 539, 510, 540, 421, 422, 423, 424, 103, 657, 658, 659, 660, 661, 662, 663, 664, 665, 467, 468, 469, 470, 471, 472, 666, 667, 668, 669, 100, 101, 670, 671, 672, 673, 92, 674, 675, 676, 677, 99, 678, 679, 680, 681, 682, 509, 511, 102, 683, 684, 685, 686, 687, 688, 689, 690, 691, 692, 114, 108, 115, 116, 111, 117, 112, 693, 694, 695, 696, 104, 118, 697, 698, 699, 700, 701, 702, 703, 704, 705, 706, 707, 708, 709, 710, 711, 712, 713, 714, 715, 716, 717, 718, 719, 720, 787, 788, 789, 790, 998, 999, 1000, 1001, 1002, 1003, 1004, 1005, 1006, 1007, 1008, 1009, 1010, 1011, 1012, 1013, 1014, 1015, 1016, 1017, 1018, 1019, 1020, 1021, 1022, 1023, 1024, 1025, 1026, 1027, 1028, 1029, 1030, 1031, 1032, 1033, 1034] (by decide +kernel) (by decide +kernel)) (goodIn_sub (fun _ h => List.mem_append_left _ (List.mem_append_left _ (List.mem_append_left _ (List.mem_append_left _ (List.mem_append_left _ (List.mem_append_left _ (List.mem_append_left _ (List.mem_append_right _ h)))))))) (by decide +kernel))) (goodIn_sub (fun _ h => List.mem_append_left _ (List.mem_append_left _ (List.mem_append_right _ h))) (by decide +kernel))
set_option maxRecDepth 20000 in
theorem gL_law_X12_sell : GoodIn wsL_law (wsV RL 158 RX12 yX12_sell wsX12_sell) := goodIn_app (goodIn_of _ (by decide +kernel)) ggL_law_X12_sell
set_option maxRecDepth 20000 in
theorem ggL_law_L_giveBack : GoodIn wsL_law wsL_giveBack := goodIn_ca (goodIn_ca (goodIn_ca (goodIn_r _ [885, 171, 124, 886, 887, 888, 2, 889, 176, 177, 131, 132, 33, 890, 891, 892, 32, 893, 84, 894, 895, 896, 897, 85, 898, 899, 900, 901, 902, 87, 182, 183, 991, 992, 993, 994, 995, 996, 997, 1062, 1063, 1064, 1065, 1066, 1067, 1068, 1069, 1070] (by decide +kernel) (by decide +kernel)) (goodIn_sub (fun _ h => List.mem_append_left _ (List.mem_append_left _ (List.mem_append_left _ (List.mem_append_left _ (List.mem_append_left _ (List.mem_append_left _ (List.mem_append_left _ (List.mem_append_right _ h)))))))) (by decide +kernel))) (goodIn_sub (fun _ h => List.mem_append_left _ (List.mem_append_left _ (List.mem_append_left _ (List.mem_append_left _ (List.mem_append_right _ h))))) (by decide +kernel))) (goodIn_sub (fun _ h => List.mem_append_left _ (List.mem_append_left _ (List.mem_append_left _ (List.mem_append_left _ (List.mem_append_left _ (List.mem_append_right _ h)))))) (by decide +kernel))
set_option maxRecDepth 20000 in
theorem gL_law_L_giveBack : GoodIn wsL_law (va_wsS RL 159 yL_giveBack wsL_giveBack) := goodIn_app (goodIn_of _ (by decide +kernel)) ggL_law_L_giveBack
set_option maxRecDepth 20000 in
theorem ggL_law_X12_giveBack : GoodIn wsL_law wsX12_giveBack := goodIn_ca (goodIn_r _ [906, 97, 155, 882, 94, 907, 908, 909, 5, 910, 154, 161, 162, 163, 998, 999, 1000, 1001, 1002, 1003, 1004, 1005, 1006, 1007, 1008, 1009, 1010, 1011, 1012, 1013, 1014, 1015, 1016, 1017, 1018, 1019, 1020, 1021, 1022, 1023, 1024, 1025, 1026, 1027, 1028, 1029, 1030, 1031, 1032, 1033, 1034] (by decide +kernel) (by decide +kernel)) (goodIn_sub (fun _ h => List.mem_append_left _ (List.mem_append_left _ (List.mem_append_left _ (List.mem_append_left _ (List.mem_append_left _ (List.mem_append_left _ (List.mem_append_left _ (List.mem_append_right _ h)))))))) (by decide +kernel))
set_option maxRecDepth 20000 in
theorem gL_law_X12_giveBack : GoodIn wsL_law (wsV RL 161 RX12 yX12_giveBack wsX12_giveBack) := goodIn_app (goodIn_of _ (by decide +kernel)) ggL_law_X12_giveBack
set_option maxRecDepth 20000 in
theorem ggL_law_L_soldTo : GoodIn wsL_law wsL_soldTo := goodIn_ca (goodIn_ca (goodIn_r _ [913, 171, 914, 915, 916, 2, 917, 176, 177, 33, 890, 891, 892, 32, 893, 84, 918, 919, 920, 921, 86, 182, 183, 991, 992, 993, 994, 995, 996, 997, 1062, 1063, 1064, 1065, 1066, 1067, 1068, 1069, 1070] (by decide +kernel) (by decide +kernel)) (goodIn_sub (fun _ h => List.mem_append_left _ (List.mem_append_left _ (List.mem_append_left _ (List.mem_append_left _ (List.mem_append_left _ (List.mem_append_left _ (List.mem_append_left _ (List.mem_append_right _ h)))))))) (by decide +kernel))) (goodIn_sub (fun _ h => List.mem_append_left _ (List.mem_append_left _ (List.mem_append_left _ (List.mem_append_left _ (List.mem_append_right _ h))))) (by decide +kernel))
set_option maxRecDepth 20000 in
theorem gL_law_L_soldTo : GoodIn wsL_law (va_wsS RL 162 yL_soldTo wsL_soldTo) := goodIn_app (goodIn_of _ (by decide +kernel)) ggL_law_L_soldTo
set_option maxRecDepth 20000 in
theorem ggL_law_X12_soldTo : GoodIn wsL_law wsX12_soldTo := goodIn_ca (goodIn_r _ [925, 155, 95, 907, 908, 909, 5, 910, 154, 97, 161, 162, 163, 998, 999, 1000, 1001, 1002, 1003, 1004, 1005, 1006, 1007, 1008, 1009, 1010, 1011, 1012, 1013, 1014, 1015, 1016, 1017, 1018, 1019, 1020, 1021, 1022, 1023, 1024, 1025, 1026, 1027, 1028, 1029, 1030, 1031, 1032, 1033, 1034] (by decide +kernel) (by decide +kernel)) (goodIn_sub (fun _ h => List.mem_append_left _ (List.mem_append_left _ (List.mem_append_left _ (List.mem_append_left _ (List.mem_append_left _ (List.mem_append_left _ (List.mem_append_left _ (List.mem_append_right _ h)))))))) (by decide +kernel))
set_option maxRecDepth 20000 in
theorem gL_law_X12_soldTo : GoodIn wsL_law (wsV RL 164 RX12 yX12_soldTo wsX12_soldTo) := goodIn_app (goodIn_of _ (by decide +kernel)) ggL_law_X12_soldTo
set_option maxRecDepth 20000 in
theorem ggL_law_X11_usesInAll : GoodIn wsL_law wsX11_usesInAll := goodIn_r _ [929, 33, 930, 931, 932, 32, 933, 872, 991, 992, 993, 994, 995, 996, 997, 1062, 1063, 1064, 1065, 1066, 1067, 1068, 1069, 1070] (by decide +kernel) (by decide +kernel)
set_option maxRecDepth 20000 in
theorem gL_law_X11_usesInAll : GoodIn wsL_law (wsV RL 165 RX11 yX11_usesInAll wsX11_usesInAll) := goodIn_app (goodIn_of _ (by decide +kernel)) ggL_law_X11_usesInAll
set_option maxRecDepth 20000 in
theorem ggL_law_X12_usesInAll : GoodIn wsL_law wsX12_usesInAll := goodIn_r _ [937, 155, 881, 998, 999, 1000, 1001, 1002, 1003, 1004, 1005, 1006, 1007, 1008, 1009, 1010, 1011, 1012, 1013, 1014, 1015, 1016, 1017, 1018, 1019, 1020, 1021, 1022, 1023, 1024, 1025, 1026, 1027, 1028, 1029, 1030, 1031, 1032, 1033, 1034] (by decide +kernel) (by decide +kernel)
set_option maxRecDepth 20000 in
theorem gL_law_X12_usesInAll : GoodIn wsL_law (wsV RL 168 RX12 yX12_usesInAll wsX12_usesInAll) := goodIn_app (goodIn_of _ (by decide +kernel)) ggL_law_X12_usesInAll
set_option maxRecDepth 20000 in
theorem ggL_law_X11_turnover : GoodIn wsL_law wsX11_turnover := goodIn_r _ [941, 33, 942, 943, 944, 32, 945, 863, 902, 991, 992, 993, 994, 995, 996, 997, 1062, 1063, 1064, 1065, 1066, 1067, 1068, 1069, 1070] (by decide +kernel) (by decide +kernel)
set_option maxRecDepth 20000 in
theorem gL_law_X11_turnover : GoodIn wsL_law (wsV RL 169 RX11 yX11_turnover wsX11_turnover) := goodIn_app (goodIn_of _ (by decide +kernel)) ggL_law_X11_turnover
set_option maxRecDepth 20000 in
theorem ggL_law_X12_turnover : GoodIn wsL_law wsX12_turnover := goodIn_r _ [949, 155, 882, 998, 999, 1000, 1001, 1002, 1003, 1004, 1005, 1006, 1007, 1008, 1009, 1010, 1011, 1012, 1013, 1014, 1015, 1016, 1017, 1018, 1019, 1020, 1021, 1022, 1023, 1024, 1025, 1026, 1027, 1028, 1029, 1030, 1031, 1032, 1033, 1034] (by decide +kernel) (by decide +kernel)
set_option maxRecDepth 20000 in
theorem gL_law_X12_turnover : GoodIn wsL_law (wsV RL 173 RX12 yX12_turnover wsX12_turnover) := goodIn_app (goodIn_of _ (by decide +kernel)) ggL_law_X12_turnover
set_option maxRecDepth 20000 in
theorem ggL_law_L_discountShare : GoodIn wsL_law wsL_discountShare := goodIn_ca (goodIn_ca (goodIn_r _ [952, 953, 954, 955, 956, 2, 957, 958, 959, 33, 960, 961, 962, 32, 963, 862, 964, 965, 966, 967, 863, 991, 992, 993, 994, 995, 996, 997, 1062, 1063, 1064, 1065, 1066, 1067, 1068, 1069, 1070] (by decide +kernel) (by decide +kernel)) (goodIn_sub (fun _ h => List.mem_append_left _ (List.mem_append_left _ (List.mem_append_left _ (List.mem_append_left _ (List.mem_append_left _ (List.mem_append_left _ (List.mem_append_left _ (List.mem_append_right _ h)))))))) (by decide +kernel))) (goodIn_sub (fun _ h => List.mem_append_right _ h) (by decide +kernel))
set_option maxRecDepth 20000 in
theorem gL_law_L_discountShare : GoodIn wsL_law (va_wsS RL 174 yL_discountShare wsL_discountShare) := goodIn_app (goodIn_of _ (by decide +kernel)) ggL_law_L_discountShare
set_option maxRecDepth 20000 in
theorem ggL_law_X12_discountShare : GoodIn wsL_law wsX12_discountShare := goodIn_ca (goodIn_r _ [971, 155, 972, 973, 974, 5, 975, 154, 93, 94, 907, 908, 909, 910, 97, 161, 162, 163, 998, 999, 1000, 1001, 1002, 1003, 1004, 1005, 1006, 1007, 1008, 1009, 1010, 1011, 1012, 1013, 1014, 1015, 1016, 1017, 1018, 1019, 1020, 1021, 1022, 1023, 1024, 1025, 1026, 1027, 1028, 1029, 1030, 1031, 1032, 1033, 1034] (by decide +kernel) (by decide +kernel)) (goodIn_sub (fun _ h => List.mem_append_left _ (List.mem_append_left _ (List.mem_append_left _ (List.mem_append_left _ (List.mem_append_left _ (List.mem_append_left _ (List.mem_append_left _ (List.mem_append_right _ h)))))))) (by decide +kernel))
set_option maxRecDepth 20000 in
theorem gL_law_X12_discountShare : GoodIn wsL_law (wsV RL 177 RX12 yX12_discountShare wsX12_discountShare) := goodIn_app (goodIn_of _ (by decide +kernel)) ggL_law_X12_discountShare
set_option maxRecDepth 20000 in
theorem ggL_law_L_meanNetPrice : GoodIn wsL_law wsL_meanNetPrice := goodIn_ca (goodIn_ca (goodIn_r _ [978, 953, 979, 980, 981, 2, 982, 958, 959, 33, 983, 984, 985, 32, 986, 861, 964, 965, 966, 967, 863, 991, 992, 993, 994, 995, 996, 997, 1062, 1063, 1064, 1065, 1066, 1067, 1068, 1069, 1070] (by decide +kernel) (by decide +kernel)) (goodIn_sub (fun _ h => List.mem_append_left _ (List.mem_append_left _ (List.mem_append_left _ (List.mem_append_left _ (List.mem_append_left _ (List.mem_append_left _ (List.mem_append_left _ (List.mem_append_right _ h)))))))) (by decide +kernel))) (goodIn_sub (fun _ h => List.mem_append_right _ h) (by decide +kernel))
set_option maxRecDepth 20000 in
theorem gL_law_L_meanNetPrice : GoodIn wsL_law (va_wsS RL 178 yL_meanNetPrice wsL_meanNetPrice) := goodIn_app (goodIn_of _ (by decide +kernel)) ggL_law_L_meanNetPrice
set_option maxRecDepth 20000 in
theorem ggL_law_X12_meanNetPrice : GoodIn wsL_law wsX12_meanNetPrice := goodIn_ca (goodIn_r _ [990, 155, 972, 973, 974, 5, 975, 154, 93, 94, 907, 908, 909, 910, 97, 161, 162, 163, 998, 999, 1000, 1001, 1002, 1003, 1004, 1005, 1006, 1007, 1008, 1009, 1010, 1011, 1012, 1013, 1014, 1015, 1016, 1017, 1018, 1019, 1020, 1021, 1022, 1023, 1024, 1025, 1026, 1027, 1028, 1029, 1030, 1031, 1032, 1033, 1034] (by decide +kernel) (by decide +kernel)) (goodIn_sub (fun _ h => List.mem_append_left _ (List.mem_append_left _ (List.mem_append_left _ (List.mem_append_left _ (List.mem_append_left _ (List.mem_append_left _ (List.mem_append_left _ (List.mem_append_right _ h)))))))) (by decide +kernel))
set_option maxRecDepth 20000 in
theorem gL_law_X12_meanNetPrice : GoodIn wsL_law (wsV RL 180 RX12 yX12_meanNetPrice wsX12_meanNetPrice) := goodIn_app (goodIn_of _ (by decide +kernel)) ggL_law_X12_meanNetPrice
theorem dL_law_0 : decode cL_law 0 = .ok (.new 8, 3) := by decide +kernel
theorem dL_law_3 : decode cL_law 3 = .ok (.dup, 1) := by decide +kernel
theorem dL_law_4 : decode cL_law 4 = .ok (.invokespecial 83, 3) := by decide +kernel
theorem dL_law_7 : decode cL_law 7 = .ok (.astore_n 1, 1) := by decide +kernel
theorem dL_law_8 : decode cL_law 8 = .ok (.new 84, 3) := by decide +kernel
theorem dL_law_11 : decode cL_law 11 = .ok (.dup, 1) := by decide +kernel
theorem dL_law_12 : decode cL_law 12 = .ok (.invokespecial 86, 3) := by decide +kernel
theorem dL_law_15 : decode cL_law 15 = .ok (.astore_n 2, 1) := by decide +kernel
theorem dL_law_16 : decode cL_law 16 = .ok (.iconst 1, 1) := by decide +kernel
theorem dL_law_17 : decode cL_law 17 = .ok (.newarray .long, 2) := by decide +kernel
theorem dL_law_19 : decode cL_law 19 = .ok (.astore_n 3, 1) := by decide +kernel
theorem dL_law_20 : decode cL_law 20 = .ok (.iconst 1, 1) := by decide +kernel
theorem dL_law_21 : decode cL_law 21 = .ok (.newarray .double, 2) := by decide +kernel
theorem dL_law_23 : decode cL_law 23 = .ok (.astore 4, 2) := by decide +kernel
theorem dL_law_25 : decode cL_law 25 = .ok (.iconst 0, 1) := by decide +kernel
theorem dL_law_26 : decode cL_law 26 = .ok (.istore 5, 2) := by decide +kernel
theorem dL_law_28 : decode cL_law 28 = .ok (.iload 5, 2) := by decide +kernel
theorem dL_law_30 : decode cL_law 30 = .ok (.aload_n 0, 1) := by decide +kernel
theorem dL_law_31 : decode cL_law 31 = .ok (.arraylength, 1) := by decide +kernel
theorem dL_law_32 : decode cL_law 32 = .ok (.bipush 7, 2) := by decide +kernel
theorem dL_law_34 : decode cL_law 34 = .ok (.isub, 1) := by decide +kernel
theorem dL_law_35 : decode cL_law 35 = .ok (.if_icmp .gt 1408, 3) := by decide +kernel
theorem dL_law_38 : decode cL_law 38 = .ok (.aload_n 0, 1) := by decide +kernel
theorem dL_law_39 : decode cL_law 39 = .ok (.iload 5, 2) := by decide +kernel
theorem dL_law_41 : decode cL_law 41 = .ok (.iaload, 1) := by decide +kernel
theorem dL_law_42 : decode cL_law 42 = .ok (.bipush 31, 2) := by decide +kernel
theorem dL_law_44 : decode cL_law 44 = .ok (.iand, 1) := by decide +kernel
theorem dL_law_45 : decode cL_law 45 = .ok (.tableswitch 1392 0 24 #[115, 183, 239, 295, 308, 321, 413, 505, 623, 715, 771, 784, 797, 841, 897, 953, 1009, 1065, 1078, 1122, 1178, 1234, 1247, 1261, 1327], 115) := by decide +kernel
theorem dL_law_160 : decode cL_law 160 = .ok (.aload_n 1, 1) := by decide +kernel
theorem dL_law_161 : decode cL_law 161 = .ok (.aload_n 0, 1) := by decide +kernel
theorem dL_law_162 : decode cL_law 162 = .ok (.iload 5, 2) := by decide +kernel
theorem dL_law_164 : decode cL_law 164 = .ok (.iconst 1, 1) := by decide +kernel
theorem dL_law_165 : decode cL_law 165 = .ok (.iadd, 1) := by decide +kernel
theorem dL_law_166 : decode cL_law 166 = .ok (.iaload, 1) := by decide +kernel
theorem dL_law_167 : decode cL_law 167 = .ok (.aload_n 0, 1) := by decide +kernel
theorem dL_law_168 : decode cL_law 168 = .ok (.iload 5, 2) := by decide +kernel
theorem dL_law_170 : decode cL_law 170 = .ok (.iconst 2, 1) := by decide +kernel
theorem dL_law_171 : decode cL_law 171 = .ok (.iadd, 1) := by decide +kernel
theorem dL_law_172 : decode cL_law 172 = .ok (.iaload, 1) := by decide +kernel
theorem dL_law_173 : decode cL_law 173 = .ok (.aload_n 3, 1) := by decide +kernel
theorem dL_law_174 : decode cL_law 174 = .ok (.invokestatic 87, 3) := by decide +kernel
theorem dL_law_177 : decode cL_law 177 = .ok (.istore 6, 2) := by decide +kernel
theorem dL_law_179 : decode cL_law 179 = .ok (.aload_n 2, 1) := by decide +kernel
theorem dL_law_180 : decode cL_law 180 = .ok (.aload_n 0, 1) := by decide +kernel
theorem dL_law_181 : decode cL_law 181 = .ok (.iload 5, 2) := by decide +kernel
theorem dL_law_183 : decode cL_law 183 = .ok (.iconst 1, 1) := by decide +kernel
theorem dL_law_184 : decode cL_law 184 = .ok (.iadd, 1) := by decide +kernel
theorem dL_law_185 : decode cL_law 185 = .ok (.iaload, 1) := by decide +kernel
theorem dL_law_186 : decode cL_law 186 = .ok (.aload_n 0, 1) := by decide +kernel
theorem dL_law_187 : decode cL_law 187 = .ok (.iload 5, 2) := by decide +kernel
theorem dL_law_189 : decode cL_law 189 = .ok (.iconst 2, 1) := by decide +kernel
theorem dL_law_190 : decode cL_law 190 = .ok (.iadd, 1) := by decide +kernel
theorem dL_law_191 : decode cL_law 191 = .ok (.iaload, 1) := by decide +kernel
theorem dL_law_192 : decode cL_law 192 = .ok (.invokevirtual 92, 3) := by decide +kernel
theorem dL_law_195 : decode cL_law 195 = .ok (.istore 7, 2) := by decide +kernel
theorem dL_law_197 : decode cL_law 197 = .ok (.aload_n 2, 1) := by decide +kernel
theorem dL_law_198 : decode cL_law 198 = .ok (.invokevirtual 93, 3) := by decide +kernel
theorem dL_law_201 : decode cL_law 201 = .ok (.iload 6, 2) := by decide +kernel
theorem dL_law_203 : decode cL_law 203 = .ok (.if_icmp .eq 5, 3) := by decide +kernel
theorem dL_law_206 : decode cL_law 206 = .ok (.iconst 0, 1) := by decide +kernel
theorem dL_law_207 : decode cL_law 207 = .ok (.ireturn, 1) := by decide +kernel
theorem dL_law_208 : decode cL_law 208 = .ok (.iload 6, 2) := by decide +kernel
theorem dL_law_210 : decode cL_law 210 = .ok (.ifCond .ne 15, 3) := by decide +kernel
theorem dL_law_213 : decode cL_law 213 = .ok (.aload_n 3, 1) := by decide +kernel
theorem dL_law_214 : decode cL_law 214 = .ok (.iconst 0, 1) := by decide +kernel
theorem dL_law_215 : decode cL_law 215 = .ok (.laload, 1) := by decide +kernel
theorem dL_law_216 : decode cL_law 216 = .ok (.iload 7, 2) := by decide +kernel
theorem dL_law_218 : decode cL_law 218 = .ok (.i2l, 1) := by decide +kernel
theorem dL_law_219 : decode cL_law 219 = .ok (.lcmp, 1) := by decide +kernel
theorem dL_law_220 : decode cL_law 220 = .ok (.ifCond .eq 5, 3) := by decide +kernel
theorem dL_law_223 : decode cL_law 223 = .ok (.iconst 0, 1) := by decide +kernel
theorem dL_law_224 : decode cL_law 224 = .ok (.ireturn, 1) := by decide +kernel
theorem dL_law_225 : decode cL_law 225 = .ok (.goto 1212, 3) := by decide +kernel
theorem dL_law_228 : decode cL_law 228 = .ok (.aload_n 1, 1) := by decide +kernel
theorem dL_law_229 : decode cL_law 229 = .ok (.aload_n 0, 1) := by decide +kernel
theorem dL_law_230 : decode cL_law 230 = .ok (.iload 5, 2) := by decide +kernel
theorem dL_law_232 : decode cL_law 232 = .ok (.iconst 1, 1) := by decide +kernel
theorem dL_law_233 : decode cL_law 233 = .ok (.iadd, 1) := by decide +kernel
theorem dL_law_234 : decode cL_law 234 = .ok (.iaload, 1) := by decide +kernel
theorem dL_law_235 : decode cL_law 235 = .ok (.aload_n 3, 1) := by decide +kernel
theorem dL_law_236 : decode cL_law 236 = .ok (.invokestatic 96, 3) := by decide +kernel
theorem dL_law_239 : decode cL_law 239 = .ok (.istore 6, 2) := by decide +kernel
theorem dL_law_241 : decode cL_law 241 = .ok (.aload_n 2, 1) := by decide +kernel
theorem dL_law_242 : decode cL_law 242 = .ok (.aload_n 0, 1) := by decide +kernel
theorem dL_law_243 : decode cL_law 243 = .ok (.iload 5, 2) := by decide +kernel
theorem dL_law_245 : decode cL_law 245 = .ok (.iconst 1, 1) := by decide +kernel
theorem dL_law_246 : decode cL_law 246 = .ok (.iadd, 1) := by decide +kernel
theorem dL_law_247 : decode cL_law 247 = .ok (.iaload, 1) := by decide +kernel
theorem dL_law_248 : decode cL_law 248 = .ok (.invokevirtual 99, 3) := by decide +kernel
theorem dL_law_251 : decode cL_law 251 = .ok (.istore 7, 2) := by decide +kernel
theorem dL_law_253 : decode cL_law 253 = .ok (.aload_n 2, 1) := by decide +kernel
theorem dL_law_254 : decode cL_law 254 = .ok (.invokevirtual 93, 3) := by decide +kernel
theorem dL_law_257 : decode cL_law 257 = .ok (.iload 6, 2) := by decide +kernel
theorem dL_law_259 : decode cL_law 259 = .ok (.if_icmp .eq 5, 3) := by decide +kernel
theorem dL_law_262 : decode cL_law 262 = .ok (.iconst 0, 1) := by decide +kernel
theorem dL_law_263 : decode cL_law 263 = .ok (.ireturn, 1) := by decide +kernel
theorem dL_law_264 : decode cL_law 264 = .ok (.iload 6, 2) := by decide +kernel
theorem dL_law_266 : decode cL_law 266 = .ok (.ifCond .ne 15, 3) := by decide +kernel
theorem dL_law_269 : decode cL_law 269 = .ok (.aload_n 3, 1) := by decide +kernel
theorem dL_law_270 : decode cL_law 270 = .ok (.iconst 0, 1) := by decide +kernel
theorem dL_law_271 : decode cL_law 271 = .ok (.laload, 1) := by decide +kernel
theorem dL_law_272 : decode cL_law 272 = .ok (.iload 7, 2) := by decide +kernel
theorem dL_law_274 : decode cL_law 274 = .ok (.i2l, 1) := by decide +kernel
theorem dL_law_275 : decode cL_law 275 = .ok (.lcmp, 1) := by decide +kernel
theorem dL_law_276 : decode cL_law 276 = .ok (.ifCond .eq 5, 3) := by decide +kernel
theorem dL_law_279 : decode cL_law 279 = .ok (.iconst 0, 1) := by decide +kernel
theorem dL_law_280 : decode cL_law 280 = .ok (.ireturn, 1) := by decide +kernel
theorem dL_law_281 : decode cL_law 281 = .ok (.goto 1156, 3) := by decide +kernel
theorem dL_law_284 : decode cL_law 284 = .ok (.aload_n 1, 1) := by decide +kernel
theorem dL_law_285 : decode cL_law 285 = .ok (.aload_n 0, 1) := by decide +kernel
theorem dL_law_286 : decode cL_law 286 = .ok (.iload 5, 2) := by decide +kernel
theorem dL_law_288 : decode cL_law 288 = .ok (.iconst 1, 1) := by decide +kernel
theorem dL_law_289 : decode cL_law 289 = .ok (.iadd, 1) := by decide +kernel
theorem dL_law_290 : decode cL_law 290 = .ok (.iaload, 1) := by decide +kernel
theorem dL_law_291 : decode cL_law 291 = .ok (.aload_n 3, 1) := by decide +kernel
theorem dL_law_292 : decode cL_law 292 = .ok (.invokestatic 100, 3) := by decide +kernel
theorem dL_law_295 : decode cL_law 295 = .ok (.istore 6, 2) := by decide +kernel
theorem dL_law_297 : decode cL_law 297 = .ok (.aload_n 2, 1) := by decide +kernel
theorem dL_law_298 : decode cL_law 298 = .ok (.aload_n 0, 1) := by decide +kernel
theorem dL_law_299 : decode cL_law 299 = .ok (.iload 5, 2) := by decide +kernel
theorem dL_law_301 : decode cL_law 301 = .ok (.iconst 1, 1) := by decide +kernel
theorem dL_law_302 : decode cL_law 302 = .ok (.iadd, 1) := by decide +kernel
theorem dL_law_303 : decode cL_law 303 = .ok (.iaload, 1) := by decide +kernel
theorem dL_law_304 : decode cL_law 304 = .ok (.invokevirtual 102, 3) := by decide +kernel
theorem dL_law_307 : decode cL_law 307 = .ok (.istore 7, 2) := by decide +kernel
theorem dL_law_309 : decode cL_law 309 = .ok (.aload_n 2, 1) := by decide +kernel
theorem dL_law_310 : decode cL_law 310 = .ok (.invokevirtual 93, 3) := by decide +kernel
theorem dL_law_313 : decode cL_law 313 = .ok (.iload 6, 2) := by decide +kernel
theorem dL_law_315 : decode cL_law 315 = .ok (.if_icmp .eq 5, 3) := by decide +kernel
theorem dL_law_318 : decode cL_law 318 = .ok (.iconst 0, 1) := by decide +kernel
theorem dL_law_319 : decode cL_law 319 = .ok (.ireturn, 1) := by decide +kernel
theorem dL_law_320 : decode cL_law 320 = .ok (.iload 6, 2) := by decide +kernel
theorem dL_law_322 : decode cL_law 322 = .ok (.ifCond .ne 15, 3) := by decide +kernel
theorem dL_law_325 : decode cL_law 325 = .ok (.aload_n 3, 1) := by decide +kernel
theorem dL_law_326 : decode cL_law 326 = .ok (.iconst 0, 1) := by decide +kernel
theorem dL_law_327 : decode cL_law 327 = .ok (.laload, 1) := by decide +kernel
theorem dL_law_328 : decode cL_law 328 = .ok (.iload 7, 2) := by decide +kernel
theorem dL_law_330 : decode cL_law 330 = .ok (.i2l, 1) := by decide +kernel
theorem dL_law_331 : decode cL_law 331 = .ok (.lcmp, 1) := by decide +kernel
theorem dL_law_332 : decode cL_law 332 = .ok (.ifCond .eq 5, 3) := by decide +kernel
theorem dL_law_335 : decode cL_law 335 = .ok (.iconst 0, 1) := by decide +kernel
theorem dL_law_336 : decode cL_law 336 = .ok (.ireturn, 1) := by decide +kernel
theorem dL_law_337 : decode cL_law 337 = .ok (.goto 1100, 3) := by decide +kernel
theorem dL_law_340 : decode cL_law 340 = .ok (.aload_n 1, 1) := by decide +kernel
theorem dL_law_341 : decode cL_law 341 = .ok (.invokevirtual 103, 3) := by decide +kernel
theorem dL_law_344 : decode cL_law 344 = .ok (.aload_n 2, 1) := by decide +kernel
theorem dL_law_345 : decode cL_law 345 = .ok (.invokevirtual 106, 3) := by decide +kernel
theorem dL_law_348 : decode cL_law 348 = .ok (.if_icmp .eq 1089, 3) := by decide +kernel
theorem dL_law_351 : decode cL_law 351 = .ok (.iconst 0, 1) := by decide +kernel
theorem dL_law_352 : decode cL_law 352 = .ok (.ireturn, 1) := by decide +kernel
theorem dL_law_353 : decode cL_law 353 = .ok (.aload_n 1, 1) := by decide +kernel
theorem dL_law_354 : decode cL_law 354 = .ok (.invokevirtual 107, 3) := by decide +kernel
theorem dL_law_357 : decode cL_law 357 = .ok (.aload_n 2, 1) := by decide +kernel
theorem dL_law_358 : decode cL_law 358 = .ok (.invokevirtual 110, 3) := by decide +kernel
theorem dL_law_361 : decode cL_law 361 = .ok (.if_icmp .eq 1076, 3) := by decide +kernel
theorem dL_law_364 : decode cL_law 364 = .ok (.iconst 0, 1) := by decide +kernel
theorem dL_law_365 : decode cL_law 365 = .ok (.ireturn, 1) := by decide +kernel
theorem dL_law_366 : decode cL_law 366 = .ok (.aload_n 1, 1) := by decide +kernel
theorem dL_law_367 : decode cL_law 367 = .ok (.aload_n 0, 1) := by decide +kernel
theorem dL_law_368 : decode cL_law 368 = .ok (.iload 5, 2) := by decide +kernel
theorem dL_law_370 : decode cL_law 370 = .ok (.iconst 1, 1) := by decide +kernel
theorem dL_law_371 : decode cL_law 371 = .ok (.iadd, 1) := by decide +kernel
theorem dL_law_372 : decode cL_law 372 = .ok (.iaload, 1) := by decide +kernel
theorem dL_law_373 : decode cL_law 373 = .ok (.aload_n 0, 1) := by decide +kernel
theorem dL_law_374 : decode cL_law 374 = .ok (.iload 5, 2) := by decide +kernel
theorem dL_law_376 : decode cL_law 376 = .ok (.iconst 2, 1) := by decide +kernel
theorem dL_law_377 : decode cL_law 377 = .ok (.iadd, 1) := by decide +kernel
theorem dL_law_378 : decode cL_law 378 = .ok (.iaload, 1) := by decide +kernel
theorem dL_law_379 : decode cL_law 379 = .ok (.aload_n 0, 1) := by decide +kernel
theorem dL_law_380 : decode cL_law 380 = .ok (.iload 5, 2) := by decide +kernel
theorem dL_law_382 : decode cL_law 382 = .ok (.iconst 3, 1) := by decide +kernel
theorem dL_law_383 : decode cL_law 383 = .ok (.iadd, 1) := by decide +kernel
theorem dL_law_384 : decode cL_law 384 = .ok (.iaload, 1) := by decide +kernel
theorem dL_law_385 : decode cL_law 385 = .ok (.aload_n 0, 1) := by decide +kernel
theorem dL_law_386 : decode cL_law 386 = .ok (.iload 5, 2) := by decide +kernel
theorem dL_law_388 : decode cL_law 388 = .ok (.iconst 4, 1) := by decide +kernel
theorem dL_law_389 : decode cL_law 389 = .ok (.iadd, 1) := by decide +kernel
theorem dL_law_390 : decode cL_law 390 = .ok (.iaload, 1) := by decide +kernel
theorem dL_law_391 : decode cL_law 391 = .ok (.aload_n 3, 1) := by decide +kernel
theorem dL_law_392 : decode cL_law 392 = .ok (.invokestatic 111, 3) := by decide +kernel
theorem dL_law_395 : decode cL_law 395 = .ok (.istore 6, 2) := by decide +kernel
theorem dL_law_397 : decode cL_law 397 = .ok (.aload_n 2, 1) := by decide +kernel
theorem dL_law_398 : decode cL_law 398 = .ok (.aload_n 0, 1) := by decide +kernel
theorem dL_law_399 : decode cL_law 399 = .ok (.iload 5, 2) := by decide +kernel
theorem dL_law_401 : decode cL_law 401 = .ok (.iconst 1, 1) := by decide +kernel
theorem dL_law_402 : decode cL_law 402 = .ok (.iadd, 1) := by decide +kernel
theorem dL_law_403 : decode cL_law 403 = .ok (.iaload, 1) := by decide +kernel
theorem dL_law_404 : decode cL_law 404 = .ok (.aload_n 0, 1) := by decide +kernel
theorem dL_law_405 : decode cL_law 405 = .ok (.iload 5, 2) := by decide +kernel
theorem dL_law_407 : decode cL_law 407 = .ok (.iconst 2, 1) := by decide +kernel
theorem dL_law_408 : decode cL_law 408 = .ok (.iadd, 1) := by decide +kernel
theorem dL_law_409 : decode cL_law 409 = .ok (.iaload, 1) := by decide +kernel
theorem dL_law_410 : decode cL_law 410 = .ok (.aload_n 0, 1) := by decide +kernel
theorem dL_law_411 : decode cL_law 411 = .ok (.iload 5, 2) := by decide +kernel
theorem dL_law_413 : decode cL_law 413 = .ok (.iconst 3, 1) := by decide +kernel
theorem dL_law_414 : decode cL_law 414 = .ok (.iadd, 1) := by decide +kernel
theorem dL_law_415 : decode cL_law 415 = .ok (.iaload, 1) := by decide +kernel
theorem dL_law_416 : decode cL_law 416 = .ok (.aload_n 0, 1) := by decide +kernel
theorem dL_law_417 : decode cL_law 417 = .ok (.iload 5, 2) := by decide +kernel
theorem dL_law_419 : decode cL_law 419 = .ok (.iconst 4, 1) := by decide +kernel
theorem dL_law_420 : decode cL_law 420 = .ok (.iadd, 1) := by decide +kernel
theorem dL_law_421 : decode cL_law 421 = .ok (.iaload, 1) := by decide +kernel
theorem dL_law_422 : decode cL_law 422 = .ok (.invokevirtual 114, 3) := by decide +kernel
theorem dL_law_425 : decode cL_law 425 = .ok (.istore 7, 2) := by decide +kernel
theorem dL_law_427 : decode cL_law 427 = .ok (.aload_n 2, 1) := by decide +kernel
theorem dL_law_428 : decode cL_law 428 = .ok (.invokevirtual 93, 3) := by decide +kernel
theorem dL_law_431 : decode cL_law 431 = .ok (.iload 6, 2) := by decide +kernel
theorem dL_law_433 : decode cL_law 433 = .ok (.if_icmp .eq 5, 3) := by decide +kernel
theorem dL_law_436 : decode cL_law 436 = .ok (.iconst 0, 1) := by decide +kernel
theorem dL_law_437 : decode cL_law 437 = .ok (.ireturn, 1) := by decide +kernel
theorem dL_law_438 : decode cL_law 438 = .ok (.iload 6, 2) := by decide +kernel
theorem dL_law_440 : decode cL_law 440 = .ok (.ifCond .ne 15, 3) := by decide +kernel
theorem dL_law_443 : decode cL_law 443 = .ok (.aload_n 3, 1) := by decide +kernel
theorem dL_law_444 : decode cL_law 444 = .ok (.iconst 0, 1) := by decide +kernel
theorem dL_law_445 : decode cL_law 445 = .ok (.laload, 1) := by decide +kernel
theorem dL_law_446 : decode cL_law 446 = .ok (.iload 7, 2) := by decide +kernel
theorem dL_law_448 : decode cL_law 448 = .ok (.i2l, 1) := by decide +kernel
theorem dL_law_449 : decode cL_law 449 = .ok (.lcmp, 1) := by decide +kernel
theorem dL_law_450 : decode cL_law 450 = .ok (.ifCond .eq 5, 3) := by decide +kernel
theorem dL_law_453 : decode cL_law 453 = .ok (.iconst 0, 1) := by decide +kernel
theorem dL_law_454 : decode cL_law 454 = .ok (.ireturn, 1) := by decide +kernel
theorem dL_law_455 : decode cL_law 455 = .ok (.goto 982, 3) := by decide +kernel
theorem dL_law_458 : decode cL_law 458 = .ok (.aload_n 1, 1) := by decide +kernel
theorem dL_law_459 : decode cL_law 459 = .ok (.aload_n 0, 1) := by decide +kernel
theorem dL_law_460 : decode cL_law 460 = .ok (.iload 5, 2) := by decide +kernel
theorem dL_law_462 : decode cL_law 462 = .ok (.iconst 1, 1) := by decide +kernel
theorem dL_law_463 : decode cL_law 463 = .ok (.iadd, 1) := by decide +kernel
theorem dL_law_464 : decode cL_law 464 = .ok (.iaload, 1) := by decide +kernel
theorem dL_law_465 : decode cL_law 465 = .ok (.aload_n 0, 1) := by decide +kernel
theorem dL_law_466 : decode cL_law 466 = .ok (.iload 5, 2) := by decide +kernel
theorem dL_law_468 : decode cL_law 468 = .ok (.iconst 2, 1) := by decide +kernel
theorem dL_law_469 : decode cL_law 469 = .ok (.iadd, 1) := by decide +kernel
theorem dL_law_470 : decode cL_law 470 = .ok (.iaload, 1) := by decide +kernel
theorem dL_law_471 : decode cL_law 471 = .ok (.aload_n 0, 1) := by decide +kernel
theorem dL_law_472 : decode cL_law 472 = .ok (.iload 5, 2) := by decide +kernel
theorem dL_law_474 : decode cL_law 474 = .ok (.iconst 3, 1) := by decide +kernel
theorem dL_law_475 : decode cL_law 475 = .ok (.iadd, 1) := by decide +kernel
theorem dL_law_476 : decode cL_law 476 = .ok (.iaload, 1) := by decide +kernel
theorem dL_law_477 : decode cL_law 477 = .ok (.aload_n 0, 1) := by decide +kernel
theorem dL_law_478 : decode cL_law 478 = .ok (.iload 5, 2) := by decide +kernel
theorem dL_law_480 : decode cL_law 480 = .ok (.iconst 4, 1) := by decide +kernel
theorem dL_law_481 : decode cL_law 481 = .ok (.iadd, 1) := by decide +kernel
theorem dL_law_482 : decode cL_law 482 = .ok (.iaload, 1) := by decide +kernel
theorem dL_law_483 : decode cL_law 483 = .ok (.aload_n 3, 1) := by decide +kernel
theorem dL_law_484 : decode cL_law 484 = .ok (.invokestatic 115, 3) := by decide +kernel
theorem dL_law_487 : decode cL_law 487 = .ok (.istore 6, 2) := by decide +kernel
theorem dL_law_489 : decode cL_law 489 = .ok (.aload_n 2, 1) := by decide +kernel
theorem dL_law_490 : decode cL_law 490 = .ok (.aload_n 0, 1) := by decide +kernel
theorem dL_law_491 : decode cL_law 491 = .ok (.iload 5, 2) := by decide +kernel
theorem dL_law_493 : decode cL_law 493 = .ok (.iconst 1, 1) := by decide +kernel
theorem dL_law_494 : decode cL_law 494 = .ok (.iadd, 1) := by decide +kernel
theorem dL_law_495 : decode cL_law 495 = .ok (.iaload, 1) := by decide +kernel
theorem dL_law_496 : decode cL_law 496 = .ok (.aload_n 0, 1) := by decide +kernel
theorem dL_law_497 : decode cL_law 497 = .ok (.iload 5, 2) := by decide +kernel
theorem dL_law_499 : decode cL_law 499 = .ok (.iconst 2, 1) := by decide +kernel
theorem dL_law_500 : decode cL_law 500 = .ok (.iadd, 1) := by decide +kernel
theorem dL_law_501 : decode cL_law 501 = .ok (.iaload, 1) := by decide +kernel
theorem dL_law_502 : decode cL_law 502 = .ok (.aload_n 0, 1) := by decide +kernel
theorem dL_law_503 : decode cL_law 503 = .ok (.iload 5, 2) := by decide +kernel
theorem dL_law_505 : decode cL_law 505 = .ok (.iconst 3, 1) := by decide +kernel
theorem dL_law_506 : decode cL_law 506 = .ok (.iadd, 1) := by decide +kernel
theorem dL_law_507 : decode cL_law 507 = .ok (.iaload, 1) := by decide +kernel
theorem dL_law_508 : decode cL_law 508 = .ok (.aload_n 0, 1) := by decide +kernel
theorem dL_law_509 : decode cL_law 509 = .ok (.iload 5, 2) := by decide +kernel
theorem dL_law_511 : decode cL_law 511 = .ok (.iconst 4, 1) := by decide +kernel
theorem dL_law_512 : decode cL_law 512 = .ok (.iadd, 1) := by decide +kernel
theorem dL_law_513 : decode cL_law 513 = .ok (.iaload, 1) := by decide +kernel
theorem dL_law_514 : decode cL_law 514 = .ok (.invokevirtual 117, 3) := by decide +kernel
theorem dL_law_517 : decode cL_law 517 = .ok (.istore 7, 2) := by decide +kernel
theorem dL_law_519 : decode cL_law 519 = .ok (.aload_n 2, 1) := by decide +kernel
theorem dL_law_520 : decode cL_law 520 = .ok (.invokevirtual 93, 3) := by decide +kernel
theorem dL_law_523 : decode cL_law 523 = .ok (.iload 6, 2) := by decide +kernel
theorem dL_law_525 : decode cL_law 525 = .ok (.if_icmp .eq 5, 3) := by decide +kernel
theorem dL_law_528 : decode cL_law 528 = .ok (.iconst 0, 1) := by decide +kernel
theorem dL_law_529 : decode cL_law 529 = .ok (.ireturn, 1) := by decide +kernel
theorem dL_law_530 : decode cL_law 530 = .ok (.iload 6, 2) := by decide +kernel
theorem dL_law_532 : decode cL_law 532 = .ok (.ifCond .ne 15, 3) := by decide +kernel
theorem dL_law_535 : decode cL_law 535 = .ok (.aload_n 3, 1) := by decide +kernel
theorem dL_law_536 : decode cL_law 536 = .ok (.iconst 0, 1) := by decide +kernel
theorem dL_law_537 : decode cL_law 537 = .ok (.laload, 1) := by decide +kernel
theorem dL_law_538 : decode cL_law 538 = .ok (.iload 7, 2) := by decide +kernel
theorem dL_law_540 : decode cL_law 540 = .ok (.i2l, 1) := by decide +kernel
theorem dL_law_541 : decode cL_law 541 = .ok (.lcmp, 1) := by decide +kernel
theorem dL_law_542 : decode cL_law 542 = .ok (.ifCond .eq 5, 3) := by decide +kernel
theorem dL_law_545 : decode cL_law 545 = .ok (.iconst 0, 1) := by decide +kernel
theorem dL_law_546 : decode cL_law 546 = .ok (.ireturn, 1) := by decide +kernel
theorem dL_law_547 : decode cL_law 547 = .ok (.goto 890, 3) := by decide +kernel
theorem dL_law_550 : decode cL_law 550 = .ok (.aload_n 1, 1) := by decide +kernel
theorem dL_law_551 : decode cL_law 551 = .ok (.aload_n 0, 1) := by decide +kernel
theorem dL_law_552 : decode cL_law 552 = .ok (.iload 5, 2) := by decide +kernel
theorem dL_law_554 : decode cL_law 554 = .ok (.iconst 1, 1) := by decide +kernel
theorem dL_law_555 : decode cL_law 555 = .ok (.iadd, 1) := by decide +kernel
theorem dL_law_556 : decode cL_law 556 = .ok (.iaload, 1) := by decide +kernel
theorem dL_law_557 : decode cL_law 557 = .ok (.aload_n 0, 1) := by decide +kernel
theorem dL_law_558 : decode cL_law 558 = .ok (.iload 5, 2) := by decide +kernel
theorem dL_law_560 : decode cL_law 560 = .ok (.iconst 2, 1) := by decide +kernel
theorem dL_law_561 : decode cL_law 561 = .ok (.iadd, 1) := by decide +kernel
theorem dL_law_562 : decode cL_law 562 = .ok (.iaload, 1) := by decide +kernel
theorem dL_law_563 : decode cL_law 563 = .ok (.aload_n 0, 1) := by decide +kernel
theorem dL_law_564 : decode cL_law 564 = .ok (.iload 5, 2) := by decide +kernel
theorem dL_law_566 : decode cL_law 566 = .ok (.iconst 3, 1) := by decide +kernel
theorem dL_law_567 : decode cL_law 567 = .ok (.iadd, 1) := by decide +kernel
theorem dL_law_568 : decode cL_law 568 = .ok (.iaload, 1) := by decide +kernel
theorem dL_law_569 : decode cL_law 569 = .ok (.aload_n 0, 1) := by decide +kernel
theorem dL_law_570 : decode cL_law 570 = .ok (.iload 5, 2) := by decide +kernel
theorem dL_law_572 : decode cL_law 572 = .ok (.iconst 4, 1) := by decide +kernel
theorem dL_law_573 : decode cL_law 573 = .ok (.iadd, 1) := by decide +kernel
theorem dL_law_574 : decode cL_law 574 = .ok (.iaload, 1) := by decide +kernel
theorem dL_law_575 : decode cL_law 575 = .ok (.aload_n 0, 1) := by decide +kernel
theorem dL_law_576 : decode cL_law 576 = .ok (.iload 5, 2) := by decide +kernel
theorem dL_law_578 : decode cL_law 578 = .ok (.iconst 5, 1) := by decide +kernel
theorem dL_law_579 : decode cL_law 579 = .ok (.iadd, 1) := by decide +kernel
theorem dL_law_580 : decode cL_law 580 = .ok (.iaload, 1) := by decide +kernel
theorem dL_law_581 : decode cL_law 581 = .ok (.aload_n 0, 1) := by decide +kernel
theorem dL_law_582 : decode cL_law 582 = .ok (.iload 5, 2) := by decide +kernel
theorem dL_law_584 : decode cL_law 584 = .ok (.bipush 6, 2) := by decide +kernel
theorem dL_law_586 : decode cL_law 586 = .ok (.iadd, 1) := by decide +kernel
theorem dL_law_587 : decode cL_law 587 = .ok (.iaload, 1) := by decide +kernel
theorem dL_law_588 : decode cL_law 588 = .ok (.aload_n 3, 1) := by decide +kernel
theorem dL_law_589 : decode cL_law 589 = .ok (.invokestatic 118, 3) := by decide +kernel
theorem dL_law_592 : decode cL_law 592 = .ok (.istore 6, 2) := by decide +kernel
theorem dL_law_594 : decode cL_law 594 = .ok (.aload_n 2, 1) := by decide +kernel
theorem dL_law_595 : decode cL_law 595 = .ok (.aload_n 0, 1) := by decide +kernel
theorem dL_law_596 : decode cL_law 596 = .ok (.iload 5, 2) := by decide +kernel
theorem dL_law_598 : decode cL_law 598 = .ok (.iconst 1, 1) := by decide +kernel
theorem dL_law_599 : decode cL_law 599 = .ok (.iadd, 1) := by decide +kernel
theorem dL_law_600 : decode cL_law 600 = .ok (.iaload, 1) := by decide +kernel
theorem dL_law_601 : decode cL_law 601 = .ok (.aload_n 0, 1) := by decide +kernel
theorem dL_law_602 : decode cL_law 602 = .ok (.iload 5, 2) := by decide +kernel
theorem dL_law_604 : decode cL_law 604 = .ok (.iconst 2, 1) := by decide +kernel
theorem dL_law_605 : decode cL_law 605 = .ok (.iadd, 1) := by decide +kernel
theorem dL_law_606 : decode cL_law 606 = .ok (.iaload, 1) := by decide +kernel
theorem dL_law_607 : decode cL_law 607 = .ok (.aload_n 0, 1) := by decide +kernel
theorem dL_law_608 : decode cL_law 608 = .ok (.iload 5, 2) := by decide +kernel
theorem dL_law_610 : decode cL_law 610 = .ok (.iconst 3, 1) := by decide +kernel
theorem dL_law_611 : decode cL_law 611 = .ok (.iadd, 1) := by decide +kernel
theorem dL_law_612 : decode cL_law 612 = .ok (.iaload, 1) := by decide +kernel
theorem dL_law_613 : decode cL_law 613 = .ok (.aload_n 0, 1) := by decide +kernel
theorem dL_law_614 : decode cL_law 614 = .ok (.iload 5, 2) := by decide +kernel
theorem dL_law_616 : decode cL_law 616 = .ok (.iconst 4, 1) := by decide +kernel
theorem dL_law_617 : decode cL_law 617 = .ok (.iadd, 1) := by decide +kernel
theorem dL_law_618 : decode cL_law 618 = .ok (.iaload, 1) := by decide +kernel
theorem dL_law_619 : decode cL_law 619 = .ok (.aload_n 0, 1) := by decide +kernel
theorem dL_law_620 : decode cL_law 620 = .ok (.iload 5, 2) := by decide +kernel
theorem dL_law_622 : decode cL_law 622 = .ok (.iconst 5, 1) := by decide +kernel
theorem dL_law_623 : decode cL_law 623 = .ok (.iadd, 1) := by decide +kernel
theorem dL_law_624 : decode cL_law 624 = .ok (.iaload, 1) := by decide +kernel
theorem dL_law_625 : decode cL_law 625 = .ok (.aload_n 0, 1) := by decide +kernel
theorem dL_law_626 : decode cL_law 626 = .ok (.iload 5, 2) := by decide +kernel
theorem dL_law_628 : decode cL_law 628 = .ok (.bipush 6, 2) := by decide +kernel
theorem dL_law_630 : decode cL_law 630 = .ok (.iadd, 1) := by decide +kernel
theorem dL_law_631 : decode cL_law 631 = .ok (.iaload, 1) := by decide +kernel
theorem dL_law_632 : decode cL_law 632 = .ok (.invokevirtual 121, 3) := by decide +kernel
theorem dL_law_635 : decode cL_law 635 = .ok (.istore 7, 2) := by decide +kernel
theorem dL_law_637 : decode cL_law 637 = .ok (.aload_n 2, 1) := by decide +kernel
theorem dL_law_638 : decode cL_law 638 = .ok (.invokevirtual 93, 3) := by decide +kernel
theorem dL_law_641 : decode cL_law 641 = .ok (.iload 6, 2) := by decide +kernel
theorem dL_law_643 : decode cL_law 643 = .ok (.if_icmp .eq 5, 3) := by decide +kernel
theorem dL_law_646 : decode cL_law 646 = .ok (.iconst 0, 1) := by decide +kernel
theorem dL_law_647 : decode cL_law 647 = .ok (.ireturn, 1) := by decide +kernel
theorem dL_law_648 : decode cL_law 648 = .ok (.iload 6, 2) := by decide +kernel
theorem dL_law_650 : decode cL_law 650 = .ok (.ifCond .ne 15, 3) := by decide +kernel
theorem dL_law_653 : decode cL_law 653 = .ok (.aload_n 3, 1) := by decide +kernel
theorem dL_law_654 : decode cL_law 654 = .ok (.iconst 0, 1) := by decide +kernel
theorem dL_law_655 : decode cL_law 655 = .ok (.laload, 1) := by decide +kernel
theorem dL_law_656 : decode cL_law 656 = .ok (.iload 7, 2) := by decide +kernel
theorem dL_law_658 : decode cL_law 658 = .ok (.i2l, 1) := by decide +kernel
theorem dL_law_659 : decode cL_law 659 = .ok (.lcmp, 1) := by decide +kernel
theorem dL_law_660 : decode cL_law 660 = .ok (.ifCond .eq 5, 3) := by decide +kernel
theorem dL_law_663 : decode cL_law 663 = .ok (.iconst 0, 1) := by decide +kernel
theorem dL_law_664 : decode cL_law 664 = .ok (.ireturn, 1) := by decide +kernel
theorem dL_law_665 : decode cL_law 665 = .ok (.goto 772, 3) := by decide +kernel
theorem dL_law_668 : decode cL_law 668 = .ok (.aload_n 1, 1) := by decide +kernel
theorem dL_law_669 : decode cL_law 669 = .ok (.aload_n 0, 1) := by decide +kernel
theorem dL_law_670 : decode cL_law 670 = .ok (.iload 5, 2) := by decide +kernel
theorem dL_law_672 : decode cL_law 672 = .ok (.iconst 1, 1) := by decide +kernel
theorem dL_law_673 : decode cL_law 673 = .ok (.iadd, 1) := by decide +kernel
theorem dL_law_674 : decode cL_law 674 = .ok (.iaload, 1) := by decide +kernel
theorem dL_law_675 : decode cL_law 675 = .ok (.aload_n 0, 1) := by decide +kernel
theorem dL_law_676 : decode cL_law 676 = .ok (.iload 5, 2) := by decide +kernel
theorem dL_law_678 : decode cL_law 678 = .ok (.iconst 2, 1) := by decide +kernel
theorem dL_law_679 : decode cL_law 679 = .ok (.iadd, 1) := by decide +kernel
theorem dL_law_680 : decode cL_law 680 = .ok (.iaload, 1) := by decide +kernel
theorem dL_law_681 : decode cL_law 681 = .ok (.aload_n 0, 1) := by decide +kernel
theorem dL_law_682 : decode cL_law 682 = .ok (.iload 5, 2) := by decide +kernel
theorem dL_law_684 : decode cL_law 684 = .ok (.iconst 3, 1) := by decide +kernel
theorem dL_law_685 : decode cL_law 685 = .ok (.iadd, 1) := by decide +kernel
theorem dL_law_686 : decode cL_law 686 = .ok (.iaload, 1) := by decide +kernel
theorem dL_law_687 : decode cL_law 687 = .ok (.aload_n 0, 1) := by decide +kernel
theorem dL_law_688 : decode cL_law 688 = .ok (.iload 5, 2) := by decide +kernel
theorem dL_law_690 : decode cL_law 690 = .ok (.iconst 4, 1) := by decide +kernel
theorem dL_law_691 : decode cL_law 691 = .ok (.iadd, 1) := by decide +kernel
theorem dL_law_692 : decode cL_law 692 = .ok (.iaload, 1) := by decide +kernel
theorem dL_law_693 : decode cL_law 693 = .ok (.aload_n 3, 1) := by decide +kernel
theorem dL_law_694 : decode cL_law 694 = .ok (.invokestatic 122, 3) := by decide +kernel
theorem dL_law_697 : decode cL_law 697 = .ok (.istore 6, 2) := by decide +kernel
theorem dL_law_699 : decode cL_law 699 = .ok (.aload_n 2, 1) := by decide +kernel
theorem dL_law_700 : decode cL_law 700 = .ok (.aload_n 0, 1) := by decide +kernel
theorem dL_law_701 : decode cL_law 701 = .ok (.iload 5, 2) := by decide +kernel
theorem dL_law_703 : decode cL_law 703 = .ok (.iconst 1, 1) := by decide +kernel
theorem dL_law_704 : decode cL_law 704 = .ok (.iadd, 1) := by decide +kernel
theorem dL_law_705 : decode cL_law 705 = .ok (.iaload, 1) := by decide +kernel
theorem dL_law_706 : decode cL_law 706 = .ok (.aload_n 0, 1) := by decide +kernel
theorem dL_law_707 : decode cL_law 707 = .ok (.iload 5, 2) := by decide +kernel
theorem dL_law_709 : decode cL_law 709 = .ok (.iconst 2, 1) := by decide +kernel
theorem dL_law_710 : decode cL_law 710 = .ok (.iadd, 1) := by decide +kernel
theorem dL_law_711 : decode cL_law 711 = .ok (.iaload, 1) := by decide +kernel
theorem dL_law_712 : decode cL_law 712 = .ok (.aload_n 0, 1) := by decide +kernel
theorem dL_law_713 : decode cL_law 713 = .ok (.iload 5, 2) := by decide +kernel
theorem dL_law_715 : decode cL_law 715 = .ok (.iconst 3, 1) := by decide +kernel
theorem dL_law_716 : decode cL_law 716 = .ok (.iadd, 1) := by decide +kernel
theorem dL_law_717 : decode cL_law 717 = .ok (.iaload, 1) := by decide +kernel
theorem dL_law_718 : decode cL_law 718 = .ok (.aload_n 0, 1) := by decide +kernel
theorem dL_law_719 : decode cL_law 719 = .ok (.iload 5, 2) := by decide +kernel
theorem dL_law_721 : decode cL_law 721 = .ok (.iconst 4, 1) := by decide +kernel
theorem dL_law_722 : decode cL_law 722 = .ok (.iadd, 1) := by decide +kernel
theorem dL_law_723 : decode cL_law 723 = .ok (.iaload, 1) := by decide +kernel
theorem dL_law_724 : decode cL_law 724 = .ok (.invokevirtual 124, 3) := by decide +kernel
theorem dL_law_727 : decode cL_law 727 = .ok (.istore 7, 2) := by decide +kernel
theorem dL_law_729 : decode cL_law 729 = .ok (.aload_n 2, 1) := by decide +kernel
theorem dL_law_730 : decode cL_law 730 = .ok (.invokevirtual 93, 3) := by decide +kernel
theorem dL_law_733 : decode cL_law 733 = .ok (.iload 6, 2) := by decide +kernel
theorem dL_law_735 : decode cL_law 735 = .ok (.if_icmp .eq 5, 3) := by decide +kernel
theorem dL_law_738 : decode cL_law 738 = .ok (.iconst 0, 1) := by decide +kernel
theorem dL_law_739 : decode cL_law 739 = .ok (.ireturn, 1) := by decide +kernel
theorem dL_law_740 : decode cL_law 740 = .ok (.iload 6, 2) := by decide +kernel
theorem dL_law_742 : decode cL_law 742 = .ok (.ifCond .ne 15, 3) := by decide +kernel
theorem dL_law_745 : decode cL_law 745 = .ok (.aload_n 3, 1) := by decide +kernel
theorem dL_law_746 : decode cL_law 746 = .ok (.iconst 0, 1) := by decide +kernel
theorem dL_law_747 : decode cL_law 747 = .ok (.laload, 1) := by decide +kernel
theorem dL_law_748 : decode cL_law 748 = .ok (.iload 7, 2) := by decide +kernel
theorem dL_law_750 : decode cL_law 750 = .ok (.i2l, 1) := by decide +kernel
theorem dL_law_751 : decode cL_law 751 = .ok (.lcmp, 1) := by decide +kernel
theorem dL_law_752 : decode cL_law 752 = .ok (.ifCond .eq 5, 3) := by decide +kernel
theorem dL_law_755 : decode cL_law 755 = .ok (.iconst 0, 1) := by decide +kernel
theorem dL_law_756 : decode cL_law 756 = .ok (.ireturn, 1) := by decide +kernel
theorem dL_law_757 : decode cL_law 757 = .ok (.goto 680, 3) := by decide +kernel
theorem dL_law_760 : decode cL_law 760 = .ok (.aload_n 1, 1) := by decide +kernel
theorem dL_law_761 : decode cL_law 761 = .ok (.aload_n 0, 1) := by decide +kernel
theorem dL_law_762 : decode cL_law 762 = .ok (.iload 5, 2) := by decide +kernel
theorem dL_law_764 : decode cL_law 764 = .ok (.iconst 1, 1) := by decide +kernel
theorem dL_law_765 : decode cL_law 765 = .ok (.iadd, 1) := by decide +kernel
theorem dL_law_766 : decode cL_law 766 = .ok (.iaload, 1) := by decide +kernel
theorem dL_law_767 : decode cL_law 767 = .ok (.aload_n 3, 1) := by decide +kernel
theorem dL_law_768 : decode cL_law 768 = .ok (.invokestatic 125, 3) := by decide +kernel
theorem dL_law_771 : decode cL_law 771 = .ok (.istore 6, 2) := by decide +kernel
theorem dL_law_773 : decode cL_law 773 = .ok (.aload_n 2, 1) := by decide +kernel
theorem dL_law_774 : decode cL_law 774 = .ok (.aload_n 0, 1) := by decide +kernel
theorem dL_law_775 : decode cL_law 775 = .ok (.iload 5, 2) := by decide +kernel
theorem dL_law_777 : decode cL_law 777 = .ok (.iconst 1, 1) := by decide +kernel
theorem dL_law_778 : decode cL_law 778 = .ok (.iadd, 1) := by decide +kernel
theorem dL_law_779 : decode cL_law 779 = .ok (.iaload, 1) := by decide +kernel
theorem dL_law_780 : decode cL_law 780 = .ok (.invokevirtual 127, 3) := by decide +kernel
theorem dL_law_783 : decode cL_law 783 = .ok (.istore 7, 2) := by decide +kernel
theorem dL_law_785 : decode cL_law 785 = .ok (.aload_n 2, 1) := by decide +kernel
theorem dL_law_786 : decode cL_law 786 = .ok (.invokevirtual 93, 3) := by decide +kernel
theorem dL_law_789 : decode cL_law 789 = .ok (.iload 6, 2) := by decide +kernel
theorem dL_law_791 : decode cL_law 791 = .ok (.if_icmp .eq 5, 3) := by decide +kernel
theorem dL_law_794 : decode cL_law 794 = .ok (.iconst 0, 1) := by decide +kernel
theorem dL_law_795 : decode cL_law 795 = .ok (.ireturn, 1) := by decide +kernel
theorem dL_law_796 : decode cL_law 796 = .ok (.iload 6, 2) := by decide +kernel
theorem dL_law_798 : decode cL_law 798 = .ok (.ifCond .ne 15, 3) := by decide +kernel
theorem dL_law_801 : decode cL_law 801 = .ok (.aload_n 3, 1) := by decide +kernel
theorem dL_law_802 : decode cL_law 802 = .ok (.iconst 0, 1) := by decide +kernel
theorem dL_law_803 : decode cL_law 803 = .ok (.laload, 1) := by decide +kernel
theorem dL_law_804 : decode cL_law 804 = .ok (.iload 7, 2) := by decide +kernel
theorem dL_law_806 : decode cL_law 806 = .ok (.i2l, 1) := by decide +kernel
theorem dL_law_807 : decode cL_law 807 = .ok (.lcmp, 1) := by decide +kernel
theorem dL_law_808 : decode cL_law 808 = .ok (.ifCond .eq 5, 3) := by decide +kernel
theorem dL_law_811 : decode cL_law 811 = .ok (.iconst 0, 1) := by decide +kernel
theorem dL_law_812 : decode cL_law 812 = .ok (.ireturn, 1) := by decide +kernel
theorem dL_law_813 : decode cL_law 813 = .ok (.goto 624, 3) := by decide +kernel
theorem dL_law_816 : decode cL_law 816 = .ok (.aload_n 1, 1) := by decide +kernel
theorem dL_law_817 : decode cL_law 817 = .ok (.invokevirtual 128, 3) := by decide +kernel
theorem dL_law_820 : decode cL_law 820 = .ok (.aload_n 2, 1) := by decide +kernel
theorem dL_law_821 : decode cL_law 821 = .ok (.invokevirtual 131, 3) := by decide +kernel
theorem dL_law_824 : decode cL_law 824 = .ok (.if_icmp .eq 613, 3) := by decide +kernel
theorem dL_law_827 : decode cL_law 827 = .ok (.iconst 0, 1) := by decide +kernel
theorem dL_law_828 : decode cL_law 828 = .ok (.ireturn, 1) := by decide +kernel
theorem dL_law_829 : decode cL_law 829 = .ok (.aload_n 1, 1) := by decide +kernel
theorem dL_law_830 : decode cL_law 830 = .ok (.invokevirtual 132, 3) := by decide +kernel
theorem dL_law_833 : decode cL_law 833 = .ok (.aload_n 2, 1) := by decide +kernel
theorem dL_law_834 : decode cL_law 834 = .ok (.invokevirtual 135, 3) := by decide +kernel
theorem dL_law_837 : decode cL_law 837 = .ok (.if_icmp .eq 600, 3) := by decide +kernel
theorem dL_law_840 : decode cL_law 840 = .ok (.iconst 0, 1) := by decide +kernel
theorem dL_law_841 : decode cL_law 841 = .ok (.ireturn, 1) := by decide +kernel
theorem dL_law_842 : decode cL_law 842 = .ok (.aload_n 1, 1) := by decide +kernel
theorem dL_law_843 : decode cL_law 843 = .ok (.aload_n 3, 1) := by decide +kernel
theorem dL_law_844 : decode cL_law 844 = .ok (.invokestatic 136, 3) := by decide +kernel
theorem dL_law_847 : decode cL_law 847 = .ok (.istore 6, 2) := by decide +kernel
theorem dL_law_849 : decode cL_law 849 = .ok (.aload_n 2, 1) := by decide +kernel
theorem dL_law_850 : decode cL_law 850 = .ok (.invokevirtual 139, 3) := by decide +kernel
theorem dL_law_853 : decode cL_law 853 = .ok (.istore 7, 2) := by decide +kernel
theorem dL_law_855 : decode cL_law 855 = .ok (.aload_n 2, 1) := by decide +kernel
theorem dL_law_856 : decode cL_law 856 = .ok (.invokevirtual 93, 3) := by decide +kernel
theorem dL_law_859 : decode cL_law 859 = .ok (.iload 6, 2) := by decide +kernel
theorem dL_law_861 : decode cL_law 861 = .ok (.if_icmp .eq 5, 3) := by decide +kernel
theorem dL_law_864 : decode cL_law 864 = .ok (.iconst 0, 1) := by decide +kernel
theorem dL_law_865 : decode cL_law 865 = .ok (.ireturn, 1) := by decide +kernel
theorem dL_law_866 : decode cL_law 866 = .ok (.iload 6, 2) := by decide +kernel
theorem dL_law_868 : decode cL_law 868 = .ok (.ifCond .ne 15, 3) := by decide +kernel
theorem dL_law_871 : decode cL_law 871 = .ok (.aload_n 3, 1) := by decide +kernel
theorem dL_law_872 : decode cL_law 872 = .ok (.iconst 0, 1) := by decide +kernel
theorem dL_law_873 : decode cL_law 873 = .ok (.laload, 1) := by decide +kernel
theorem dL_law_874 : decode cL_law 874 = .ok (.iload 7, 2) := by decide +kernel
theorem dL_law_876 : decode cL_law 876 = .ok (.i2l, 1) := by decide +kernel
theorem dL_law_877 : decode cL_law 877 = .ok (.lcmp, 1) := by decide +kernel
theorem dL_law_878 : decode cL_law 878 = .ok (.ifCond .eq 5, 3) := by decide +kernel
theorem dL_law_881 : decode cL_law 881 = .ok (.iconst 0, 1) := by decide +kernel
theorem dL_law_882 : decode cL_law 882 = .ok (.ireturn, 1) := by decide +kernel
theorem dL_law_883 : decode cL_law 883 = .ok (.goto 554, 3) := by decide +kernel
theorem dL_law_886 : decode cL_law 886 = .ok (.aload_n 1, 1) := by decide +kernel
theorem dL_law_887 : decode cL_law 887 = .ok (.aload_n 0, 1) := by decide +kernel
theorem dL_law_888 : decode cL_law 888 = .ok (.iload 5, 2) := by decide +kernel
theorem dL_law_890 : decode cL_law 890 = .ok (.iconst 1, 1) := by decide +kernel
theorem dL_law_891 : decode cL_law 891 = .ok (.iadd, 1) := by decide +kernel
theorem dL_law_892 : decode cL_law 892 = .ok (.iaload, 1) := by decide +kernel
theorem dL_law_893 : decode cL_law 893 = .ok (.aload_n 3, 1) := by decide +kernel
theorem dL_law_894 : decode cL_law 894 = .ok (.invokestatic 140, 3) := by decide +kernel
theorem dL_law_897 : decode cL_law 897 = .ok (.istore 6, 2) := by decide +kernel
theorem dL_law_899 : decode cL_law 899 = .ok (.aload_n 2, 1) := by decide +kernel
theorem dL_law_900 : decode cL_law 900 = .ok (.aload_n 0, 1) := by decide +kernel
theorem dL_law_901 : decode cL_law 901 = .ok (.iload 5, 2) := by decide +kernel
theorem dL_law_903 : decode cL_law 903 = .ok (.iconst 1, 1) := by decide +kernel
theorem dL_law_904 : decode cL_law 904 = .ok (.iadd, 1) := by decide +kernel
theorem dL_law_905 : decode cL_law 905 = .ok (.iaload, 1) := by decide +kernel
theorem dL_law_906 : decode cL_law 906 = .ok (.invokevirtual 142, 3) := by decide +kernel
theorem dL_law_909 : decode cL_law 909 = .ok (.istore 7, 2) := by decide +kernel
theorem dL_law_911 : decode cL_law 911 = .ok (.aload_n 2, 1) := by decide +kernel
theorem dL_law_912 : decode cL_law 912 = .ok (.invokevirtual 93, 3) := by decide +kernel
theorem dL_law_915 : decode cL_law 915 = .ok (.iload 6, 2) := by decide +kernel
theorem dL_law_917 : decode cL_law 917 = .ok (.if_icmp .eq 5, 3) := by decide +kernel
theorem dL_law_920 : decode cL_law 920 = .ok (.iconst 0, 1) := by decide +kernel
theorem dL_law_921 : decode cL_law 921 = .ok (.ireturn, 1) := by decide +kernel
theorem dL_law_922 : decode cL_law 922 = .ok (.iload 6, 2) := by decide +kernel
theorem dL_law_924 : decode cL_law 924 = .ok (.ifCond .ne 15, 3) := by decide +kernel
theorem dL_law_927 : decode cL_law 927 = .ok (.aload_n 3, 1) := by decide +kernel
theorem dL_law_928 : decode cL_law 928 = .ok (.iconst 0, 1) := by decide +kernel
theorem dL_law_929 : decode cL_law 929 = .ok (.laload, 1) := by decide +kernel
theorem dL_law_930 : decode cL_law 930 = .ok (.iload 7, 2) := by decide +kernel
theorem dL_law_932 : decode cL_law 932 = .ok (.i2l, 1) := by decide +kernel
theorem dL_law_933 : decode cL_law 933 = .ok (.lcmp, 1) := by decide +kernel
theorem dL_law_934 : decode cL_law 934 = .ok (.ifCond .eq 5, 3) := by decide +kernel
theorem dL_law_937 : decode cL_law 937 = .ok (.iconst 0, 1) := by decide +kernel
theorem dL_law_938 : decode cL_law 938 = .ok (.ireturn, 1) := by decide +kernel
theorem dL_law_939 : decode cL_law 939 = .ok (.goto 498, 3) := by decide +kernel
theorem dL_law_942 : decode cL_law 942 = .ok (.aload_n 1, 1) := by decide +kernel
theorem dL_law_943 : decode cL_law 943 = .ok (.aload_n 0, 1) := by decide +kernel
theorem dL_law_944 : decode cL_law 944 = .ok (.iload 5, 2) := by decide +kernel
theorem dL_law_946 : decode cL_law 946 = .ok (.iconst 1, 1) := by decide +kernel
theorem dL_law_947 : decode cL_law 947 = .ok (.iadd, 1) := by decide +kernel
theorem dL_law_948 : decode cL_law 948 = .ok (.iaload, 1) := by decide +kernel
theorem dL_law_949 : decode cL_law 949 = .ok (.aload_n 3, 1) := by decide +kernel
theorem dL_law_950 : decode cL_law 950 = .ok (.invokestatic 143, 3) := by decide +kernel
theorem dL_law_953 : decode cL_law 953 = .ok (.istore 6, 2) := by decide +kernel
theorem dL_law_955 : decode cL_law 955 = .ok (.aload_n 2, 1) := by decide +kernel
theorem dL_law_956 : decode cL_law 956 = .ok (.aload_n 0, 1) := by decide +kernel
theorem dL_law_957 : decode cL_law 957 = .ok (.iload 5, 2) := by decide +kernel
theorem dL_law_959 : decode cL_law 959 = .ok (.iconst 1, 1) := by decide +kernel
theorem dL_law_960 : decode cL_law 960 = .ok (.iadd, 1) := by decide +kernel
theorem dL_law_961 : decode cL_law 961 = .ok (.iaload, 1) := by decide +kernel
theorem dL_law_962 : decode cL_law 962 = .ok (.invokevirtual 145, 3) := by decide +kernel
theorem dL_law_965 : decode cL_law 965 = .ok (.istore 7, 2) := by decide +kernel
theorem dL_law_967 : decode cL_law 967 = .ok (.aload_n 2, 1) := by decide +kernel
theorem dL_law_968 : decode cL_law 968 = .ok (.invokevirtual 93, 3) := by decide +kernel
theorem dL_law_971 : decode cL_law 971 = .ok (.iload 6, 2) := by decide +kernel
theorem dL_law_973 : decode cL_law 973 = .ok (.if_icmp .eq 5, 3) := by decide +kernel
theorem dL_law_976 : decode cL_law 976 = .ok (.iconst 0, 1) := by decide +kernel
theorem dL_law_977 : decode cL_law 977 = .ok (.ireturn, 1) := by decide +kernel
theorem dL_law_978 : decode cL_law 978 = .ok (.iload 6, 2) := by decide +kernel
theorem dL_law_980 : decode cL_law 980 = .ok (.ifCond .ne 15, 3) := by decide +kernel
theorem dL_law_983 : decode cL_law 983 = .ok (.aload_n 3, 1) := by decide +kernel
theorem dL_law_984 : decode cL_law 984 = .ok (.iconst 0, 1) := by decide +kernel
theorem dL_law_985 : decode cL_law 985 = .ok (.laload, 1) := by decide +kernel
theorem dL_law_986 : decode cL_law 986 = .ok (.iload 7, 2) := by decide +kernel
theorem dL_law_988 : decode cL_law 988 = .ok (.i2l, 1) := by decide +kernel
theorem dL_law_989 : decode cL_law 989 = .ok (.lcmp, 1) := by decide +kernel
theorem dL_law_990 : decode cL_law 990 = .ok (.ifCond .eq 5, 3) := by decide +kernel
theorem dL_law_993 : decode cL_law 993 = .ok (.iconst 0, 1) := by decide +kernel
theorem dL_law_994 : decode cL_law 994 = .ok (.ireturn, 1) := by decide +kernel
theorem dL_law_995 : decode cL_law 995 = .ok (.goto 442, 3) := by decide +kernel
theorem dL_law_998 : decode cL_law 998 = .ok (.aload_n 1, 1) := by decide +kernel
theorem dL_law_999 : decode cL_law 999 = .ok (.aload_n 0, 1) := by decide +kernel
theorem dL_law_1000 : decode cL_law 1000 = .ok (.iload 5, 2) := by decide +kernel
theorem dL_law_1002 : decode cL_law 1002 = .ok (.iconst 1, 1) := by decide +kernel
theorem dL_law_1003 : decode cL_law 1003 = .ok (.iadd, 1) := by decide +kernel
theorem dL_law_1004 : decode cL_law 1004 = .ok (.iaload, 1) := by decide +kernel
theorem dL_law_1005 : decode cL_law 1005 = .ok (.aload_n 3, 1) := by decide +kernel
theorem dL_law_1006 : decode cL_law 1006 = .ok (.invokestatic 146, 3) := by decide +kernel
theorem dL_law_1009 : decode cL_law 1009 = .ok (.istore 6, 2) := by decide +kernel
theorem dL_law_1011 : decode cL_law 1011 = .ok (.aload_n 2, 1) := by decide +kernel
theorem dL_law_1012 : decode cL_law 1012 = .ok (.aload_n 0, 1) := by decide +kernel
theorem dL_law_1013 : decode cL_law 1013 = .ok (.iload 5, 2) := by decide +kernel
theorem dL_law_1015 : decode cL_law 1015 = .ok (.iconst 1, 1) := by decide +kernel
theorem dL_law_1016 : decode cL_law 1016 = .ok (.iadd, 1) := by decide +kernel
theorem dL_law_1017 : decode cL_law 1017 = .ok (.iaload, 1) := by decide +kernel
theorem dL_law_1018 : decode cL_law 1018 = .ok (.invokevirtual 148, 3) := by decide +kernel
theorem dL_law_1021 : decode cL_law 1021 = .ok (.istore 7, 2) := by decide +kernel
theorem dL_law_1023 : decode cL_law 1023 = .ok (.aload_n 2, 1) := by decide +kernel
theorem dL_law_1024 : decode cL_law 1024 = .ok (.invokevirtual 93, 3) := by decide +kernel
theorem dL_law_1027 : decode cL_law 1027 = .ok (.iload 6, 2) := by decide +kernel
theorem dL_law_1029 : decode cL_law 1029 = .ok (.if_icmp .eq 5, 3) := by decide +kernel
theorem dL_law_1032 : decode cL_law 1032 = .ok (.iconst 0, 1) := by decide +kernel
theorem dL_law_1033 : decode cL_law 1033 = .ok (.ireturn, 1) := by decide +kernel
theorem dL_law_1034 : decode cL_law 1034 = .ok (.iload 6, 2) := by decide +kernel
theorem dL_law_1036 : decode cL_law 1036 = .ok (.ifCond .ne 15, 3) := by decide +kernel
theorem dL_law_1039 : decode cL_law 1039 = .ok (.aload_n 3, 1) := by decide +kernel
theorem dL_law_1040 : decode cL_law 1040 = .ok (.iconst 0, 1) := by decide +kernel
theorem dL_law_1041 : decode cL_law 1041 = .ok (.laload, 1) := by decide +kernel
theorem dL_law_1042 : decode cL_law 1042 = .ok (.iload 7, 2) := by decide +kernel
theorem dL_law_1044 : decode cL_law 1044 = .ok (.i2l, 1) := by decide +kernel
theorem dL_law_1045 : decode cL_law 1045 = .ok (.lcmp, 1) := by decide +kernel
theorem dL_law_1046 : decode cL_law 1046 = .ok (.ifCond .eq 5, 3) := by decide +kernel
theorem dL_law_1049 : decode cL_law 1049 = .ok (.iconst 0, 1) := by decide +kernel
theorem dL_law_1050 : decode cL_law 1050 = .ok (.ireturn, 1) := by decide +kernel
theorem dL_law_1051 : decode cL_law 1051 = .ok (.goto 386, 3) := by decide +kernel
theorem dL_law_1054 : decode cL_law 1054 = .ok (.aload_n 1, 1) := by decide +kernel
theorem dL_law_1055 : decode cL_law 1055 = .ok (.aload_n 0, 1) := by decide +kernel
theorem dL_law_1056 : decode cL_law 1056 = .ok (.iload 5, 2) := by decide +kernel
theorem dL_law_1058 : decode cL_law 1058 = .ok (.iconst 1, 1) := by decide +kernel
theorem dL_law_1059 : decode cL_law 1059 = .ok (.iadd, 1) := by decide +kernel
theorem dL_law_1060 : decode cL_law 1060 = .ok (.iaload, 1) := by decide +kernel
theorem dL_law_1061 : decode cL_law 1061 = .ok (.aload_n 3, 1) := by decide +kernel
theorem dL_law_1062 : decode cL_law 1062 = .ok (.invokestatic 149, 3) := by decide +kernel
theorem dL_law_1065 : decode cL_law 1065 = .ok (.istore 6, 2) := by decide +kernel
theorem dL_law_1067 : decode cL_law 1067 = .ok (.aload_n 2, 1) := by decide +kernel
theorem dL_law_1068 : decode cL_law 1068 = .ok (.aload_n 0, 1) := by decide +kernel
theorem dL_law_1069 : decode cL_law 1069 = .ok (.iload 5, 2) := by decide +kernel
theorem dL_law_1071 : decode cL_law 1071 = .ok (.iconst 1, 1) := by decide +kernel
theorem dL_law_1072 : decode cL_law 1072 = .ok (.iadd, 1) := by decide +kernel
theorem dL_law_1073 : decode cL_law 1073 = .ok (.iaload, 1) := by decide +kernel
theorem dL_law_1074 : decode cL_law 1074 = .ok (.invokevirtual 151, 3) := by decide +kernel
theorem dL_law_1077 : decode cL_law 1077 = .ok (.istore 7, 2) := by decide +kernel
theorem dL_law_1079 : decode cL_law 1079 = .ok (.aload_n 2, 1) := by decide +kernel
theorem dL_law_1080 : decode cL_law 1080 = .ok (.invokevirtual 93, 3) := by decide +kernel
theorem dL_law_1083 : decode cL_law 1083 = .ok (.iload 6, 2) := by decide +kernel
theorem dL_law_1085 : decode cL_law 1085 = .ok (.if_icmp .eq 5, 3) := by decide +kernel
theorem dL_law_1088 : decode cL_law 1088 = .ok (.iconst 0, 1) := by decide +kernel
theorem dL_law_1089 : decode cL_law 1089 = .ok (.ireturn, 1) := by decide +kernel
theorem dL_law_1090 : decode cL_law 1090 = .ok (.iload 6, 2) := by decide +kernel
theorem dL_law_1092 : decode cL_law 1092 = .ok (.ifCond .ne 15, 3) := by decide +kernel
theorem dL_law_1095 : decode cL_law 1095 = .ok (.aload_n 3, 1) := by decide +kernel
theorem dL_law_1096 : decode cL_law 1096 = .ok (.iconst 0, 1) := by decide +kernel
theorem dL_law_1097 : decode cL_law 1097 = .ok (.laload, 1) := by decide +kernel
theorem dL_law_1098 : decode cL_law 1098 = .ok (.iload 7, 2) := by decide +kernel
theorem dL_law_1100 : decode cL_law 1100 = .ok (.i2l, 1) := by decide +kernel
theorem dL_law_1101 : decode cL_law 1101 = .ok (.lcmp, 1) := by decide +kernel
theorem dL_law_1102 : decode cL_law 1102 = .ok (.ifCond .eq 5, 3) := by decide +kernel
theorem dL_law_1105 : decode cL_law 1105 = .ok (.iconst 0, 1) := by decide +kernel
theorem dL_law_1106 : decode cL_law 1106 = .ok (.ireturn, 1) := by decide +kernel
theorem dL_law_1107 : decode cL_law 1107 = .ok (.goto 330, 3) := by decide +kernel
theorem dL_law_1110 : decode cL_law 1110 = .ok (.aload_n 1, 1) := by decide +kernel
theorem dL_law_1111 : decode cL_law 1111 = .ok (.invokevirtual 152, 3) := by decide +kernel
theorem dL_law_1114 : decode cL_law 1114 = .ok (.aload_n 2, 1) := by decide +kernel
theorem dL_law_1115 : decode cL_law 1115 = .ok (.invokevirtual 155, 3) := by decide +kernel
theorem dL_law_1118 : decode cL_law 1118 = .ok (.if_icmp .eq 319, 3) := by decide +kernel
theorem dL_law_1121 : decode cL_law 1121 = .ok (.iconst 0, 1) := by decide +kernel
theorem dL_law_1122 : decode cL_law 1122 = .ok (.ireturn, 1) := by decide +kernel
theorem dL_law_1123 : decode cL_law 1123 = .ok (.aload_n 1, 1) := by decide +kernel
theorem dL_law_1124 : decode cL_law 1124 = .ok (.aload_n 3, 1) := by decide +kernel
theorem dL_law_1125 : decode cL_law 1125 = .ok (.invokestatic 156, 3) := by decide +kernel
theorem dL_law_1128 : decode cL_law 1128 = .ok (.istore 6, 2) := by decide +kernel
theorem dL_law_1130 : decode cL_law 1130 = .ok (.aload_n 2, 1) := by decide +kernel
theorem dL_law_1131 : decode cL_law 1131 = .ok (.invokevirtual 158, 3) := by decide +kernel
theorem dL_law_1134 : decode cL_law 1134 = .ok (.istore 7, 2) := by decide +kernel
theorem dL_law_1136 : decode cL_law 1136 = .ok (.aload_n 2, 1) := by decide +kernel
theorem dL_law_1137 : decode cL_law 1137 = .ok (.invokevirtual 93, 3) := by decide +kernel
theorem dL_law_1140 : decode cL_law 1140 = .ok (.iload 6, 2) := by decide +kernel
theorem dL_law_1142 : decode cL_law 1142 = .ok (.if_icmp .eq 5, 3) := by decide +kernel
theorem dL_law_1145 : decode cL_law 1145 = .ok (.iconst 0, 1) := by decide +kernel
theorem dL_law_1146 : decode cL_law 1146 = .ok (.ireturn, 1) := by decide +kernel
theorem dL_law_1147 : decode cL_law 1147 = .ok (.iload 6, 2) := by decide +kernel
theorem dL_law_1149 : decode cL_law 1149 = .ok (.ifCond .ne 15, 3) := by decide +kernel
theorem dL_law_1152 : decode cL_law 1152 = .ok (.aload_n 3, 1) := by decide +kernel
theorem dL_law_1153 : decode cL_law 1153 = .ok (.iconst 0, 1) := by decide +kernel
theorem dL_law_1154 : decode cL_law 1154 = .ok (.laload, 1) := by decide +kernel
theorem dL_law_1155 : decode cL_law 1155 = .ok (.iload 7, 2) := by decide +kernel
theorem dL_law_1157 : decode cL_law 1157 = .ok (.i2l, 1) := by decide +kernel
theorem dL_law_1158 : decode cL_law 1158 = .ok (.lcmp, 1) := by decide +kernel
theorem dL_law_1159 : decode cL_law 1159 = .ok (.ifCond .eq 5, 3) := by decide +kernel
theorem dL_law_1162 : decode cL_law 1162 = .ok (.iconst 0, 1) := by decide +kernel
theorem dL_law_1163 : decode cL_law 1163 = .ok (.ireturn, 1) := by decide +kernel
theorem dL_law_1164 : decode cL_law 1164 = .ok (.goto 273, 3) := by decide +kernel
theorem dL_law_1167 : decode cL_law 1167 = .ok (.aload_n 1, 1) := by decide +kernel
theorem dL_law_1168 : decode cL_law 1168 = .ok (.aload_n 0, 1) := by decide +kernel
theorem dL_law_1169 : decode cL_law 1169 = .ok (.iload 5, 2) := by decide +kernel
theorem dL_law_1171 : decode cL_law 1171 = .ok (.iconst 1, 1) := by decide +kernel
theorem dL_law_1172 : decode cL_law 1172 = .ok (.iadd, 1) := by decide +kernel
theorem dL_law_1173 : decode cL_law 1173 = .ok (.iaload, 1) := by decide +kernel
theorem dL_law_1174 : decode cL_law 1174 = .ok (.aload_n 3, 1) := by decide +kernel
theorem dL_law_1175 : decode cL_law 1175 = .ok (.invokestatic 159, 3) := by decide +kernel
theorem dL_law_1178 : decode cL_law 1178 = .ok (.istore 6, 2) := by decide +kernel
theorem dL_law_1180 : decode cL_law 1180 = .ok (.aload_n 2, 1) := by decide +kernel
theorem dL_law_1181 : decode cL_law 1181 = .ok (.aload_n 0, 1) := by decide +kernel
theorem dL_law_1182 : decode cL_law 1182 = .ok (.iload 5, 2) := by decide +kernel
theorem dL_law_1184 : decode cL_law 1184 = .ok (.iconst 1, 1) := by decide +kernel
theorem dL_law_1185 : decode cL_law 1185 = .ok (.iadd, 1) := by decide +kernel
theorem dL_law_1186 : decode cL_law 1186 = .ok (.iaload, 1) := by decide +kernel
theorem dL_law_1187 : decode cL_law 1187 = .ok (.invokevirtual 161, 3) := by decide +kernel
theorem dL_law_1190 : decode cL_law 1190 = .ok (.istore 7, 2) := by decide +kernel
theorem dL_law_1192 : decode cL_law 1192 = .ok (.aload_n 2, 1) := by decide +kernel
theorem dL_law_1193 : decode cL_law 1193 = .ok (.invokevirtual 93, 3) := by decide +kernel
theorem dL_law_1196 : decode cL_law 1196 = .ok (.iload 6, 2) := by decide +kernel
theorem dL_law_1198 : decode cL_law 1198 = .ok (.if_icmp .eq 5, 3) := by decide +kernel
theorem dL_law_1201 : decode cL_law 1201 = .ok (.iconst 0, 1) := by decide +kernel
theorem dL_law_1202 : decode cL_law 1202 = .ok (.ireturn, 1) := by decide +kernel
theorem dL_law_1203 : decode cL_law 1203 = .ok (.iload 6, 2) := by decide +kernel
theorem dL_law_1205 : decode cL_law 1205 = .ok (.ifCond .ne 15, 3) := by decide +kernel
theorem dL_law_1208 : decode cL_law 1208 = .ok (.aload_n 3, 1) := by decide +kernel
theorem dL_law_1209 : decode cL_law 1209 = .ok (.iconst 0, 1) := by decide +kernel
theorem dL_law_1210 : decode cL_law 1210 = .ok (.laload, 1) := by decide +kernel
theorem dL_law_1211 : decode cL_law 1211 = .ok (.iload 7, 2) := by decide +kernel
theorem dL_law_1213 : decode cL_law 1213 = .ok (.i2l, 1) := by decide +kernel
theorem dL_law_1214 : decode cL_law 1214 = .ok (.lcmp, 1) := by decide +kernel
theorem dL_law_1215 : decode cL_law 1215 = .ok (.ifCond .eq 5, 3) := by decide +kernel
theorem dL_law_1218 : decode cL_law 1218 = .ok (.iconst 0, 1) := by decide +kernel
theorem dL_law_1219 : decode cL_law 1219 = .ok (.ireturn, 1) := by decide +kernel
theorem dL_law_1220 : decode cL_law 1220 = .ok (.goto 217, 3) := by decide +kernel
theorem dL_law_1223 : decode cL_law 1223 = .ok (.aload_n 1, 1) := by decide +kernel
theorem dL_law_1224 : decode cL_law 1224 = .ok (.aload_n 0, 1) := by decide +kernel
theorem dL_law_1225 : decode cL_law 1225 = .ok (.iload 5, 2) := by decide +kernel
theorem dL_law_1227 : decode cL_law 1227 = .ok (.iconst 1, 1) := by decide +kernel
theorem dL_law_1228 : decode cL_law 1228 = .ok (.iadd, 1) := by decide +kernel
theorem dL_law_1229 : decode cL_law 1229 = .ok (.iaload, 1) := by decide +kernel
theorem dL_law_1230 : decode cL_law 1230 = .ok (.aload_n 3, 1) := by decide +kernel
theorem dL_law_1231 : decode cL_law 1231 = .ok (.invokestatic 162, 3) := by decide +kernel
theorem dL_law_1234 : decode cL_law 1234 = .ok (.istore 6, 2) := by decide +kernel
theorem dL_law_1236 : decode cL_law 1236 = .ok (.aload_n 2, 1) := by decide +kernel
theorem dL_law_1237 : decode cL_law 1237 = .ok (.aload_n 0, 1) := by decide +kernel
theorem dL_law_1238 : decode cL_law 1238 = .ok (.iload 5, 2) := by decide +kernel
theorem dL_law_1240 : decode cL_law 1240 = .ok (.iconst 1, 1) := by decide +kernel
theorem dL_law_1241 : decode cL_law 1241 = .ok (.iadd, 1) := by decide +kernel
theorem dL_law_1242 : decode cL_law 1242 = .ok (.iaload, 1) := by decide +kernel
theorem dL_law_1243 : decode cL_law 1243 = .ok (.invokevirtual 164, 3) := by decide +kernel
theorem dL_law_1246 : decode cL_law 1246 = .ok (.istore 7, 2) := by decide +kernel
theorem dL_law_1248 : decode cL_law 1248 = .ok (.aload_n 2, 1) := by decide +kernel
theorem dL_law_1249 : decode cL_law 1249 = .ok (.invokevirtual 93, 3) := by decide +kernel
theorem dL_law_1252 : decode cL_law 1252 = .ok (.iload 6, 2) := by decide +kernel
theorem dL_law_1254 : decode cL_law 1254 = .ok (.if_icmp .eq 5, 3) := by decide +kernel
theorem dL_law_1257 : decode cL_law 1257 = .ok (.iconst 0, 1) := by decide +kernel
theorem dL_law_1258 : decode cL_law 1258 = .ok (.ireturn, 1) := by decide +kernel
theorem dL_law_1259 : decode cL_law 1259 = .ok (.iload 6, 2) := by decide +kernel
theorem dL_law_1261 : decode cL_law 1261 = .ok (.ifCond .ne 15, 3) := by decide +kernel
theorem dL_law_1264 : decode cL_law 1264 = .ok (.aload_n 3, 1) := by decide +kernel
theorem dL_law_1265 : decode cL_law 1265 = .ok (.iconst 0, 1) := by decide +kernel
theorem dL_law_1266 : decode cL_law 1266 = .ok (.laload, 1) := by decide +kernel
theorem dL_law_1267 : decode cL_law 1267 = .ok (.iload 7, 2) := by decide +kernel
theorem dL_law_1269 : decode cL_law 1269 = .ok (.i2l, 1) := by decide +kernel
theorem dL_law_1270 : decode cL_law 1270 = .ok (.lcmp, 1) := by decide +kernel
theorem dL_law_1271 : decode cL_law 1271 = .ok (.ifCond .eq 5, 3) := by decide +kernel
theorem dL_law_1274 : decode cL_law 1274 = .ok (.iconst 0, 1) := by decide +kernel
theorem dL_law_1275 : decode cL_law 1275 = .ok (.ireturn, 1) := by decide +kernel
theorem dL_law_1276 : decode cL_law 1276 = .ok (.goto 161, 3) := by decide +kernel
theorem dL_law_1279 : decode cL_law 1279 = .ok (.aload_n 1, 1) := by decide +kernel
theorem dL_law_1280 : decode cL_law 1280 = .ok (.invokevirtual 165, 3) := by decide +kernel
theorem dL_law_1283 : decode cL_law 1283 = .ok (.aload_n 2, 1) := by decide +kernel
theorem dL_law_1284 : decode cL_law 1284 = .ok (.invokevirtual 168, 3) := by decide +kernel
theorem dL_law_1287 : decode cL_law 1287 = .ok (.if_icmp .eq 150, 3) := by decide +kernel
theorem dL_law_1290 : decode cL_law 1290 = .ok (.iconst 0, 1) := by decide +kernel
theorem dL_law_1291 : decode cL_law 1291 = .ok (.ireturn, 1) := by decide +kernel
theorem dL_law_1292 : decode cL_law 1292 = .ok (.aload_n 1, 1) := by decide +kernel
theorem dL_law_1293 : decode cL_law 1293 = .ok (.invokevirtual 169, 3) := by decide +kernel
theorem dL_law_1296 : decode cL_law 1296 = .ok (.aload_n 2, 1) := by decide +kernel
theorem dL_law_1297 : decode cL_law 1297 = .ok (.invokevirtual 173, 3) := by decide +kernel
theorem dL_law_1300 : decode cL_law 1300 = .ok (.lcmp, 1) := by decide +kernel
theorem dL_law_1301 : decode cL_law 1301 = .ok (.ifCond .eq 136, 3) := by decide +kernel
theorem dL_law_1304 : decode cL_law 1304 = .ok (.iconst 0, 1) := by decide +kernel
theorem dL_law_1305 : decode cL_law 1305 = .ok (.ireturn, 1) := by decide +kernel
theorem dL_law_1306 : decode cL_law 1306 = .ok (.aload_n 1, 1) := by decide +kernel
theorem dL_law_1307 : decode cL_law 1307 = .ok (.aload 4, 2) := by decide +kernel
theorem dL_law_1309 : decode cL_law 1309 = .ok (.invokestatic 174, 3) := by decide +kernel
theorem dL_law_1312 : decode cL_law 1312 = .ok (.istore 6, 2) := by decide +kernel
theorem dL_law_1314 : decode cL_law 1314 = .ok (.aload_n 2, 1) := by decide +kernel
theorem dL_law_1315 : decode cL_law 1315 = .ok (.invokevirtual 177, 3) := by decide +kernel
theorem dL_law_1318 : decode cL_law 1318 = .ok (.fstore 7, 2) := by decide +kernel
theorem dL_law_1320 : decode cL_law 1320 = .ok (.aload_n 2, 1) := by decide +kernel
theorem dL_law_1321 : decode cL_law 1321 = .ok (.invokevirtual 93, 3) := by decide +kernel
theorem dL_law_1324 : decode cL_law 1324 = .ok (.iload 6, 2) := by decide +kernel
theorem dL_law_1326 : decode cL_law 1326 = .ok (.if_icmp .eq 5, 3) := by decide +kernel
theorem dL_law_1329 : decode cL_law 1329 = .ok (.iconst 0, 1) := by decide +kernel
theorem dL_law_1330 : decode cL_law 1330 = .ok (.ireturn, 1) := by decide +kernel
theorem dL_law_1331 : decode cL_law 1331 = .ok (.iload 6, 2) := by decide +kernel
theorem dL_law_1333 : decode cL_law 1333 = .ok (.ifCond .ne 36, 3) := by decide +kernel
theorem dL_law_1336 : decode cL_law 1336 = .ok (.aload 4, 2) := by decide +kernel
theorem dL_law_1338 : decode cL_law 1338 = .ok (.iconst 0, 1) := by decide +kernel
theorem dL_law_1339 : decode cL_law 1339 = .ok (.daload, 1) := by decide +kernel
theorem dL_law_1340 : decode cL_law 1340 = .ok (.fload 7, 2) := by decide +kernel
theorem dL_law_1342 : decode cL_law 1342 = .ok (.f2d, 1) := by decide +kernel
theorem dL_law_1343 : decode cL_law 1343 = .ok (.dcmp .l, 1) := by decide +kernel
theorem dL_law_1344 : decode cL_law 1344 = .ok (.ifCond .eq 25, 3) := by decide +kernel
theorem dL_law_1347 : decode cL_law 1347 = .ok (.aload 4, 2) := by decide +kernel
theorem dL_law_1349 : decode cL_law 1349 = .ok (.iconst 0, 1) := by decide +kernel
theorem dL_law_1350 : decode cL_law 1350 = .ok (.daload, 1) := by decide +kernel
theorem dL_law_1351 : decode cL_law 1351 = .ok (.aload 4, 2) := by decide +kernel
theorem dL_law_1353 : decode cL_law 1353 = .ok (.iconst 0, 1) := by decide +kernel
theorem dL_law_1354 : decode cL_law 1354 = .ok (.daload, 1) := by decide +kernel
theorem dL_law_1355 : decode cL_law 1355 = .ok (.dcmp .l, 1) := by decide +kernel
theorem dL_law_1356 : decode cL_law 1356 = .ok (.ifCond .eq 11, 3) := by decide +kernel
theorem dL_law_1359 : decode cL_law 1359 = .ok (.fload 7, 2) := by decide +kernel
theorem dL_law_1361 : decode cL_law 1361 = .ok (.fload 7, 2) := by decide +kernel
theorem dL_law_1363 : decode cL_law 1363 = .ok (.fcmp .l, 1) := by decide +kernel
theorem dL_law_1364 : decode cL_law 1364 = .ok (.ifCond .ne 5, 3) := by decide +kernel
theorem dL_law_1367 : decode cL_law 1367 = .ok (.iconst 0, 1) := by decide +kernel
theorem dL_law_1368 : decode cL_law 1368 = .ok (.ireturn, 1) := by decide +kernel
theorem dL_law_1369 : decode cL_law 1369 = .ok (.goto 68, 3) := by decide +kernel
theorem dL_law_1372 : decode cL_law 1372 = .ok (.aload_n 1, 1) := by decide +kernel
theorem dL_law_1373 : decode cL_law 1373 = .ok (.aload 4, 2) := by decide +kernel
theorem dL_law_1375 : decode cL_law 1375 = .ok (.invokestatic 178, 3) := by decide +kernel
theorem dL_law_1378 : decode cL_law 1378 = .ok (.istore 6, 2) := by decide +kernel
theorem dL_law_1380 : decode cL_law 1380 = .ok (.aload_n 2, 1) := by decide +kernel
theorem dL_law_1381 : decode cL_law 1381 = .ok (.invokevirtual 180, 3) := by decide +kernel
theorem dL_law_1384 : decode cL_law 1384 = .ok (.dstore 7, 2) := by decide +kernel
theorem dL_law_1386 : decode cL_law 1386 = .ok (.aload_n 2, 1) := by decide +kernel
theorem dL_law_1387 : decode cL_law 1387 = .ok (.invokevirtual 93, 3) := by decide +kernel
theorem dL_law_1390 : decode cL_law 1390 = .ok (.iload 6, 2) := by decide +kernel
theorem dL_law_1392 : decode cL_law 1392 = .ok (.if_icmp .eq 5, 3) := by decide +kernel
theorem dL_law_1395 : decode cL_law 1395 = .ok (.iconst 0, 1) := by decide +kernel
theorem dL_law_1396 : decode cL_law 1396 = .ok (.ireturn, 1) := by decide +kernel
theorem dL_law_1397 : decode cL_law 1397 = .ok (.iload 6, 2) := by decide +kernel
theorem dL_law_1399 : decode cL_law 1399 = .ok (.ifCond .ne 35, 3) := by decide +kernel
theorem dL_law_1402 : decode cL_law 1402 = .ok (.aload 4, 2) := by decide +kernel
theorem dL_law_1404 : decode cL_law 1404 = .ok (.iconst 0, 1) := by decide +kernel
theorem dL_law_1405 : decode cL_law 1405 = .ok (.daload, 1) := by decide +kernel
theorem dL_law_1406 : decode cL_law 1406 = .ok (.dload 7, 2) := by decide +kernel
theorem dL_law_1408 : decode cL_law 1408 = .ok (.dcmp .l, 1) := by decide +kernel
theorem dL_law_1409 : decode cL_law 1409 = .ok (.ifCond .eq 25, 3) := by decide +kernel
theorem dL_law_1412 : decode cL_law 1412 = .ok (.aload 4, 2) := by decide +kernel
theorem dL_law_1414 : decode cL_law 1414 = .ok (.iconst 0, 1) := by decide +kernel
theorem dL_law_1415 : decode cL_law 1415 = .ok (.daload, 1) := by decide +kernel
theorem dL_law_1416 : decode cL_law 1416 = .ok (.aload 4, 2) := by decide +kernel
theorem dL_law_1418 : decode cL_law 1418 = .ok (.iconst 0, 1) := by decide +kernel
theorem dL_law_1419 : decode cL_law 1419 = .ok (.daload, 1) := by decide +kernel
theorem dL_law_1420 : decode cL_law 1420 = .ok (.dcmp .l, 1) := by decide +kernel
theorem dL_law_1421 : decode cL_law 1421 = .ok (.ifCond .eq 11, 3) := by decide +kernel
theorem dL_law_1424 : decode cL_law 1424 = .ok (.dload 7, 2) := by decide +kernel
theorem dL_law_1426 : decode cL_law 1426 = .ok (.dload 7, 2) := by decide +kernel
theorem dL_law_1428 : decode cL_law 1428 = .ok (.dcmp .l, 1) := by decide +kernel
theorem dL_law_1429 : decode cL_law 1429 = .ok (.ifCond .ne 5, 3) := by decide +kernel
theorem dL_law_1432 : decode cL_law 1432 = .ok (.iconst 0, 1) := by decide +kernel
theorem dL_law_1433 : decode cL_law 1433 = .ok (.ireturn, 1) := by decide +kernel
theorem dL_law_1434 : decode cL_law 1434 = .ok (.goto 3, 3) := by decide +kernel
theorem dL_law_1437 : decode cL_law 1437 = .ok (.iinc 5 7, 3) := by decide +kernel
theorem dL_law_1440 : decode cL_law 1440 = .ok (.goto (-1412), 3) := by decide +kernel
theorem dL_law_1443 : decode cL_law 1443 = .ok (.iconst 1, 1) := by decide +kernel
theorem dL_law_1444 : decode cL_law 1444 = .ok (.ireturn, 1) := by decide +kernel
abbrev vwCl : List vw_C := [(RJ0, TJ0, 2), (RJx00060, TJx00060, 6), (RX0, TX0, 5), (RX1, TX1, 4), (RX2, TX2, 9), (RX3, TX3, 4), (RX4, TX4, 9), (RX6, TX6, 6), (RX7, TX7, 4), (RX8, TX8, 12), (RX9, TX9, 4), (RX10, TX10, 5), (RX11, TX11, 7), (RX12, TX12, 37)]

