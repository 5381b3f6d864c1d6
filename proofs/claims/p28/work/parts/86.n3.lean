theorem dL_at_0 : decode cL_at 0 = .ok (.iload_n 1, 1) := by decide +kernel
theorem dL_at_1 : decode cL_at 1 = .ok (.aload_n 0, 1) := by decide +kernel
theorem dL_at_2 : decode cL_at 2 = .ok (.arraylength, 1) := by decide +kernel
theorem dL_at_3 : decode cL_at 3 = .ok (.if_icmp .ge 9, 3) := by decide +kernel
theorem dL_at_6 : decode cL_at 6 = .ok (.aload_n 0, 1) := by decide +kernel
theorem dL_at_7 : decode cL_at 7 = .ok (.iload_n 1, 1) := by decide +kernel
theorem dL_at_8 : decode cL_at 8 = .ok (.iaload, 1) := by decide +kernel
theorem dL_at_9 : decode cL_at 9 = .ok (.goto 4, 3) := by decide +kernel
theorem dL_at_12 : decode cL_at 12 = .ok (.iconst 0, 1) := by decide +kernel
theorem dL_at_13 : decode cL_at 13 = .ok (.ireturn, 1) := by decide +kernel
theorem dL_some_0 : decode cL_some 0 = .ok (.iload_n 0, 1) := by decide +kernel
theorem dL_some_1 : decode cL_some 1 = .ok (.iload_n 1, 1) := by decide +kernel
theorem dL_some_2 : decode cL_some 2 = .ok (.irem, 1) := by decide +kernel
theorem dL_some_3 : decode cL_some 3 = .ok (.istore_n 2, 1) := by decide +kernel
theorem dL_some_4 : decode cL_some 4 = .ok (.iload_n 2, 1) := by decide +kernel
theorem dL_some_5 : decode cL_some 5 = .ok (.ifCond .ge 9, 3) := by decide +kernel
theorem dL_some_8 : decode cL_some 8 = .ok (.iload_n 2, 1) := by decide +kernel
theorem dL_some_9 : decode cL_some 9 = .ok (.iload_n 1, 1) := by decide +kernel
theorem dL_some_10 : decode cL_some 10 = .ok (.iadd, 1) := by decide +kernel
theorem dL_some_11 : decode cL_some 11 = .ok (.goto 4, 3) := by decide +kernel
theorem dL_some_14 : decode cL_some 14 = .ok (.iload_n 2, 1) := by decide +kernel
theorem dL_some_15 : decode cL_some 15 = .ok (.ireturn, 1) := by decide +kernel
set_option maxRecDepth 20000 in
theorem ggL_put_X11_put : GoodIn wsL_put wsX11_put := goodIn_ca (goodIn_ca (goodIn_ca (goodIn_r _ [7, 8, 9, 10, 11, 12, 13, 14, 15, 6, 16, 17, 18, 19, 20, 21, 22, 23, 24, 25, 26, 27, 28, 29, 30, 31, 32, 33, 34, 35, 36, 37, 38, 39, 40, 41, 42, 43, 44] (by decide +kernel) (by decide +kernel)) (goodIn_sub (fun _ h => List.mem_cons_of_mem _ (List.mem_append_left _ (List.mem_append_left _ (List.mem_append_right _ h)))) (by decide +kernel))) (goodIn_sub (fun _ h => List.mem_cons_of_mem _ (List.mem_append_left _ (List.mem_append_right _ h))) (by decide +kernel))) (goodIn_sub (fun _ h => List.mem_cons_of_mem _ (List.mem_append_right _ h)) (by decide +kernel))
set_option maxRecDepth 20000 in
theorem gL_put_X11_put : GoodIn wsL_put (wsV RL 7 RX11 yX11_put wsX11_put) := goodIn_app (goodIn_of _ (by decide +kernel)) ggL_put_X11_put
theorem dL_put_0 : decode cL_put 0 = .ok (.aload_n 0, 1) := by decide +kernel
theorem dL_put_1 : decode cL_put 1 = .ok (.iload_n 1, 1) := by decide +kernel
theorem dL_put_2 : decode cL_put 2 = .ok (.iload_n 2, 1) := by decide +kernel
theorem dL_put_3 : decode cL_put 3 = .ok (.invokevirtual 7, 3) := by decide +kernel
theorem dL_put_6 : decode cL_put 6 = .ok (.ireturn, 1) := by decide +kernel
theorem dL_put_7 : decode cL_put 7 = .ok (.astore_n 3, 1) := by decide +kernel
theorem dL_put_8 : decode cL_put 8 = .ok (.sipush (-1001), 3) := by decide +kernel
theorem dL_put_11 : decode cL_put 11 = .ok (.ireturn, 1) := by decide +kernel
theorem dL_put_12 : decode cL_put 12 = .ok (.astore_n 3, 1) := by decide +kernel
theorem dL_put_13 : decode cL_put 13 = .ok (.sipush (-1002), 3) := by decide +kernel
theorem dL_put_16 : decode cL_put 16 = .ok (.ireturn, 1) := by decide +kernel
set_option maxRecDepth 20000 in
theorem ggL_out_X11_takeOut : GoodIn wsL_out wsX11_takeOut := goodIn_ca (goodIn_ca (goodIn_r _ [6, 7, 8, 9, 10, 11, 12, 13, 14, 15, 16, 17, 18, 5, 19, 20, 21, 22, 23, 24, 25, 26, 27, 28, 29, 30, 31, 32, 33, 34, 35, 36, 37, 38, 39, 40, 41, 42, 43] (by decide +kernel) (by decide +kernel)) (goodIn_sub (fun _ h => List.mem_cons_of_mem _ (List.mem_append_left _ (List.mem_append_right _ h))) (by decide +kernel))) (goodIn_sub (fun _ h => List.mem_cons_of_mem _ (List.mem_append_right _ h)) (by decide +kernel))
set_option maxRecDepth 20000 in
theorem gL_out_X11_takeOut : GoodIn wsL_out (wsV RL 17 RX11 yX11_takeOut wsX11_takeOut) := goodIn_app (goodIn_of _ (by decide +kernel)) ggL_out_X11_takeOut
theorem dL_out_0 : decode cL_out 0 = .ok (.aload_n 0, 1) := by decide +kernel
theorem dL_out_1 : decode cL_out 1 = .ok (.iload_n 1, 1) := by decide +kernel
theorem dL_out_2 : decode cL_out 2 = .ok (.invokevirtual 17, 3) := by decide +kernel
theorem dL_out_5 : decode cL_out 5 = .ok (.ireturn, 1) := by decide +kernel
theorem dL_out_6 : decode cL_out 6 = .ok (.astore_n 2, 1) := by decide +kernel
theorem dL_out_7 : decode cL_out 7 = .ok (.sipush (-1001), 3) := by decide +kernel
theorem dL_out_10 : decode cL_out 10 = .ok (.ireturn, 1) := by decide +kernel
set_option maxRecDepth 20000 in
theorem ggL_customer_X11_setCustomer : GoodIn wsL_customer wsX11_setCustomer := goodIn_ca (goodIn_r _ [6, 7, 8, 9, 10, 11, 12, 5, 13, 14, 15, 16, 17, 18, 19, 20] (by decide +kernel) (by decide +kernel)) (goodIn_sub (fun _ h => List.mem_cons_of_mem _ (List.mem_append_right _ h)) (by decide +kernel))
set_option maxRecDepth 20000 in
theorem gL_customer_X11_setCustomer : GoodIn wsL_customer (wsV RL 23 RX11 yX11_setCustomer wsX11_setCustomer) := goodIn_app (goodIn_of _ (by decide +kernel)) ggL_customer_X11_setCustomer
theorem dL_customer_0 : decode cL_customer 0 = .ok (.aload_n 0, 1) := by decide +kernel
theorem dL_customer_1 : decode cL_customer 1 = .ok (.iload_n 1, 1) := by decide +kernel
theorem dL_customer_2 : decode cL_customer 2 = .ok (.invokevirtual 23, 3) := by decide +kernel
theorem dL_customer_5 : decode cL_customer 5 = .ok (.ireturn, 1) := by decide +kernel
theorem dL_customer_6 : decode cL_customer 6 = .ok (.astore_n 2, 1) := by decide +kernel
theorem dL_customer_7 : decode cL_customer 7 = .ok (.sipush (-1001), 3) := by decide +kernel
theorem dL_customer_10 : decode cL_customer 10 = .ok (.ireturn, 1) := by decide +kernel
set_option maxRecDepth 20000 in
theorem ggL_offer_X11_addPercentage_p0 : GoodIn wsL_offer [.code yX11_addPercentage cX11_addPercentage 5 (some .int)] := goodIn_r _ [7] (by decide +kernel) (by decide +kernel)
set_option maxRecDepth 20000 in
theorem ggL_offer_X11_addPercentage_p1 : GoodIn wsL_offer wsX11_addPercentage_r1 := goodIn_r _ [8, 9, 10, 11, 12, 13, 14, 15, 16, 17, 6, 18, 19, 20, 21, 22, 23, 24, 25, 26, 27, 28, 29, 30] (by decide +kernel) (by decide +kernel)
set_option maxRecDepth 20000 in
theorem ggL_offer_X11_addPercentage_p2 : GoodIn wsL_offer wsX11_addPercentage_r2 := goodIn_r _ [31, 32, 33, 34, 35, 36, 37, 38, 39, 40, 41, 42, 43, 44, 45, 46, 47, 48, 49, 50, 51, 52, 53, 54] (by decide +kernel) (by decide +kernel)
set_option maxRecDepth 20000 in
theorem ggL_offer_X11_addPercentage_p3 : GoodIn wsL_offer wsX11_addPercentage_r3 := goodIn_r _ [55, 56, 57, 58, 59, 60, 61, 62, 63, 64, 65, 66, 67, 68, 69, 70, 71, 72, 73, 74, 75, 76, 77, 78] (by decide +kernel) (by decide +kernel)
set_option maxRecDepth 20000 in
theorem ggL_offer_X11_addPercentage_p4 : GoodIn wsL_offer wsX11_addPercentage_r4 := goodIn_r _ [79, 80, 81, 82, 83, 84, 85, 86, 87, 88, 89, 90, 91] (by decide +kernel) (by decide +kernel)
set_option maxRecDepth 20000 in
theorem ggL_offer_X11_addPercentage_p5 : GoodIn wsL_offer wsX110 := goodIn_r _ [133, 134, 135, 136, 137, 138, 139] (by decide +kernel) (by decide +kernel)
set_option maxRecDepth 20000 in
theorem ggL_offer_X11_addPercentage_p6 : GoodIn wsL_offer wsX70 := goodIn_r _ [140, 141, 142, 143] (by decide +kernel) (by decide +kernel)
set_option maxRecDepth 20000 in
theorem ggL_offer_X11_addPercentage_p7 : GoodIn wsL_offer wsX60 := goodIn_r _ [144, 145, 146, 147, 148, 149] (by decide +kernel) (by decide +kernel)
set_option maxRecDepth 20000 in
theorem ggL_offer_X11_addPercentage_p8 : GoodIn wsL_offer wsX20 := goodIn_r _ [150, 151, 152, 153, 154, 155, 156, 157, 158] (by decide +kernel) (by decide +kernel)
set_option maxRecDepth 20000 in
theorem ggL_offer_X11_addPercentage_p9 : GoodIn wsL_offer wsX30 := goodIn_r _ [159, 160, 161, 162] (by decide +kernel) (by decide +kernel)
set_option maxRecDepth 20000 in
theorem ggL_offer_X11_addPercentage_p10 : GoodIn wsL_offer wsX90 := goodIn_r _ [163, 164, 165, 166] (by decide +kernel) (by decide +kernel)
set_option maxRecDepth 20000 in
theorem ggL_offer_X11_addPercentage : GoodIn wsL_offer wsX11_addPercentage := goodIn_ca (goodIn_ca (goodIn_ca (goodIn_app ggL_offer_X11_addPercentage_p0 (goodIn_app (goodIn_app (goodIn_app (goodIn_app (goodIn_app (goodIn_app (goodIn_app ggL_offer_X11_addPercentage_p1 (goodIn_app ggL_offer_X11_addPercentage_p2 (goodIn_app ggL_offer_X11_addPercentage_p3 ggL_offer_X11_addPercentage_p4))) ggL_offer_X11_addPercentage_p5) ggL_offer_X11_addPercentage_p6) ggL_offer_X11_addPercentage_p7) ggL_offer_X11_addPercentage_p8) ggL_offer_X11_addPercentage_p9) ggL_offer_X11_addPercentage_p10)) (goodIn_sub (fun _ h => List.mem_cons_of_mem _ (List.mem_append_left _ (List.mem_append_right _ h))) (by decide +kernel))) (goodIn_sub (fun _ h => List.mem_cons_of_mem _ (List.mem_append_right _ h)) (by decide +kernel))) (goodIn_sub (fun _ h => List.mem_cons_of_mem _ (List.mem_append_left _ (List.mem_append_left _ (List.mem_append_right _ h)))) (by decide +kernel))
set_option maxRecDepth 20000 in
theorem gL_offer_X11_addPercentage : GoodIn wsL_offer (wsV RL 26 RX11 yX11_addPercentage wsX11_addPercentage) := goodIn_app (goodIn_of _ (by decide +kernel)) ggL_offer_X11_addPercentage
set_option maxRecDepth 20000 in
theorem ggL_offer_X11_addFreeItem_p0 : GoodIn wsL_offer [.code yX11_addFreeItem cX11_addFreeItem 5 (some .int)] := goodIn_r _ [95] (by decide +kernel) (by decide +kernel)
set_option maxRecDepth 20000 in
theorem ggL_offer_X11_addFreeItem_p1 : GoodIn wsL_offer wsX11_addFreeItem_r1 := goodIn_r _ [8, 9, 10, 11, 12, 96, 97, 98, 16, 17, 6, 18, 19, 20, 21, 22, 23, 24, 25, 26, 27, 99, 100, 101] (by decide +kernel) (by decide +kernel)
set_option maxRecDepth 20000 in
theorem ggL_offer_X11_addFreeItem_p2 : GoodIn wsL_offer wsX11_addFreeItem_r2 := goodIn_r _ [102, 103, 104, 34, 35, 36, 37, 38, 39, 40, 41, 42, 43, 44, 45, 46, 47, 48, 49, 50, 51, 52, 53, 54] (by decide +kernel) (by decide +kernel)
set_option maxRecDepth 20000 in
theorem ggL_offer_X11_addFreeItem_p3 : GoodIn wsL_offer wsX11_addFreeItem_r3 := goodIn_r _ [55, 56, 57, 58, 59, 60, 61, 62, 63, 64, 65, 66, 67, 68, 69, 70, 71, 72, 73, 74, 75, 76, 77, 78] (by decide +kernel) (by decide +kernel)
set_option maxRecDepth 20000 in
theorem ggL_offer_X11_addFreeItem_p4 : GoodIn wsL_offer wsX11_addFreeItem_r4 := goodIn_r _ [79, 80, 81, 82, 83, 84, 85, 86, 87, 88, 89, 90, 91] (by decide +kernel) (by decide +kernel)
set_option maxRecDepth 20000 in
theorem ggL_offer_X11_addFreeItem_p5 : GoodIn wsL_offer wsX110 := goodIn_r _ [133, 134, 135, 136, 137, 138, 139] (by decide +kernel) (by decide +kernel)
set_option maxRecDepth 20000 in
theorem ggL_offer_X11_addFreeItem_p6 : GoodIn wsL_offer wsX30 := goodIn_r _ [159, 160, 161, 162] (by decide +kernel) (by decide +kernel)
set_option maxRecDepth 20000 in
theorem ggL_offer_X11_addFreeItem_p7 : GoodIn wsL_offer wsX60 := goodIn_r _ [144, 145, 146, 147, 148, 149] (by decide +kernel) (by decide +kernel)
set_option maxRecDepth 20000 in
theorem ggL_offer_X11_addFreeItem_p8 : GoodIn wsL_offer wsX20 := goodIn_r _ [150, 151, 152, 153, 154, 155, 156, 157, 158] (by decide +kernel) (by decide +kernel)
set_option maxRecDepth 20000 in
theorem ggL_offer_X11_addFreeItem_p9 : GoodIn wsL_offer wsX70 := goodIn_r _ [140, 141, 142, 143] (by decide +kernel) (by decide +kernel)
set_option maxRecDepth 20000 in
theorem ggL_offer_X11_addFreeItem_p10 : GoodIn wsL_offer wsX90 := goodIn_r _ [163, 164, 165, 166] (by decide +kernel) (by decide +kernel)
set_option maxRecDepth 20000 in
theorem ggL_offer_X11_addFreeItem : GoodIn wsL_offer wsX11_addFreeItem := goodIn_ca (goodIn_ca (goodIn_ca (goodIn_app ggL_offer_X11_addFreeItem_p0 (goodIn_app (goodIn_app (goodIn_app (goodIn_app (goodIn_app (goodIn_app (goodIn_app ggL_offer_X11_addFreeItem_p1 (goodIn_app ggL_offer_X11_addFreeItem_p2 (goodIn_app ggL_offer_X11_addFreeItem_p3 ggL_offer_X11_addFreeItem_p4))) ggL_offer_X11_addFreeItem_p5) ggL_offer_X11_addFreeItem_p6) ggL_offer_X11_addFreeItem_p7) ggL_offer_X11_addFreeItem_p8) ggL_offer_X11_addFreeItem_p9) ggL_offer_X11_addFreeItem_p10)) (goodIn_sub (fun _ h => List.mem_cons_of_mem _ (List.mem_append_left _ (List.mem_append_right _ h))) (by decide +kernel))) (goodIn_sub (fun _ h => List.mem_cons_of_mem _ (List.mem_append_right _ h)) (by decide +kernel))) (goodIn_sub (fun _ h => List.mem_cons_of_mem _ (List.mem_append_left _ (List.mem_append_left _ (List.mem_append_right _ h)))) (by decide +kernel))
set_option maxRecDepth 20000 in
theorem gL_offer_X11_addFreeItem : GoodIn wsL_offer (wsV RL 30 RX11 yX11_addFreeItem wsX11_addFreeItem) := goodIn_app (goodIn_of _ (by decide +kernel)) ggL_offer_X11_addFreeItem
set_option maxRecDepth 20000 in
theorem ggL_offer_X11_addBundle_p0 : GoodIn wsL_offer [.code yX11_addBundle cX11_addBundle 7 (some .int)] := goodIn_r _ [108] (by decide +kernel) (by decide +kernel)
set_option maxRecDepth 20000 in
theorem ggL_offer_X11_addBundle_p1 : GoodIn wsL_offer wsX11_addBundle_r1 := goodIn_r _ [8, 9, 10, 11, 12, 109, 110, 111, 16, 17, 6, 18, 19, 20, 21, 22, 23, 24, 25, 26, 27, 112, 113, 114] (by decide +kernel) (by decide +kernel)
set_option maxRecDepth 20000 in
theorem ggL_offer_X11_addBundle_p2 : GoodIn wsL_offer wsX11_addBundle_r2 := goodIn_r _ [115, 116, 117, 118, 119, 120, 121, 122, 34, 35, 36, 37, 38, 39, 40, 41, 42, 43, 44, 45, 46, 47, 48, 49] (by decide +kernel) (by decide +kernel)
set_option maxRecDepth 20000 in
theorem ggL_offer_X11_addBundle_p3 : GoodIn wsL_offer wsX11_addBundle_r3 := goodIn_r _ [50, 51, 52, 53, 54, 55, 56, 57, 58, 59, 60, 61, 62, 63, 64, 65, 66, 67, 68, 69, 70, 71, 72, 73] (by decide +kernel) (by decide +kernel)
set_option maxRecDepth 20000 in
theorem ggL_offer_X11_addBundle_p4 : GoodIn wsL_offer wsX11_addBundle_r4 := goodIn_r _ [74, 75, 76, 77, 78, 79, 80, 81, 82, 83, 84, 85, 86, 87, 88, 89, 90, 91] (by decide +kernel) (by decide +kernel)
set_option maxRecDepth 20000 in
theorem ggL_offer_X11_addBundle_p5 : GoodIn wsL_offer wsX110 := goodIn_r _ [133, 134, 135, 136, 137, 138, 139] (by decide +kernel) (by decide +kernel)
set_option maxRecDepth 20000 in
theorem ggL_offer_X11_addBundle_p6 : GoodIn wsL_offer wsX20 := goodIn_r _ [150, 151, 152, 153, 154, 155, 156, 157, 158] (by decide +kernel) (by decide +kernel)
set_option maxRecDepth 20000 in
theorem ggL_offer_X11_addBundle_p7 : GoodIn wsL_offer wsX60 := goodIn_r _ [144, 145, 146, 147, 148, 149] (by decide +kernel) (by decide +kernel)
set_option maxRecDepth 20000 in
theorem ggL_offer_X11_addBundle_p8 : GoodIn wsL_offer wsX30 := goodIn_r _ [159, 160, 161, 162] (by decide +kernel) (by decide +kernel)
set_option maxRecDepth 20000 in
theorem ggL_offer_X11_addBundle_p9 : GoodIn wsL_offer wsX70 := goodIn_r _ [140, 141, 142, 143] (by decide +kernel) (by decide +kernel)
set_option maxRecDepth 20000 in
theorem ggL_offer_X11_addBundle_p10 : GoodIn wsL_offer wsX90 := goodIn_r _ [163, 164, 165, 166] (by decide +kernel) (by decide +kernel)
set_option maxRecDepth 20000 in
theorem ggL_offer_X11_addBundle : GoodIn wsL_offer wsX11_addBundle := goodIn_ca (goodIn_ca (goodIn_ca (goodIn_app ggL_offer_X11_addBundle_p0 (goodIn_app (goodIn_app (goodIn_app (goodIn_app (goodIn_app (goodIn_app (goodIn_app ggL_offer_X11_addBundle_p1 (goodIn_app ggL_offer_X11_addBundle_p2 (goodIn_app ggL_offer_X11_addBundle_p3 ggL_offer_X11_addBundle_p4))) ggL_offer_X11_addBundle_p5) ggL_offer_X11_addBundle_p6) ggL_offer_X11_addBundle_p7) ggL_offer_X11_addBundle_p8) ggL_offer_X11_addBundle_p9) ggL_offer_X11_addBundle_p10)) (goodIn_sub (fun _ h => List.mem_cons_of_mem _ (List.mem_append_left _ (List.mem_append_right _ h))) (by decide +kernel))) (goodIn_sub (fun _ h => List.mem_cons_of_mem _ (List.mem_append_right _ h)) (by decide +kernel))) (goodIn_sub (fun _ h => List.mem_cons_of_mem _ (List.mem_append_left _ (List.mem_append_left _ (List.mem_append_right _ h)))) (by decide +kernel))
set_option maxRecDepth 20000 in
theorem gL_offer_X11_addBundle : GoodIn wsL_offer (wsV RL 33 RX11 yX11_addBundle wsX11_addBundle) := goodIn_app (goodIn_of _ (by decide +kernel)) ggL_offer_X11_addBundle
set_option maxRecDepth 20000 in
theorem ggL_offer_X11_addThreshold_p0 : GoodIn wsL_offer [.code yX11_addThreshold cX11_addThreshold 5 (some .int)] := goodIn_r _ [126] (by decide +kernel) (by decide +kernel)
set_option maxRecDepth 20000 in
theorem ggL_offer_X11_addThreshold_p1 : GoodIn wsL_offer wsX11_addThreshold_r1 := goodIn_r _ [8, 9, 10, 11, 12, 127, 128, 77, 16, 17, 6, 18, 19, 20, 21, 22, 23, 24, 25, 26, 27, 129, 130, 131] (by decide +kernel) (by decide +kernel)
set_option maxRecDepth 20000 in
theorem ggL_offer_X11_addThreshold_p2 : GoodIn wsL_offer wsX11_addThreshold_r2 := goodIn_r _ [79, 91, 132, 34, 35, 36, 37, 38, 39, 40, 41, 42, 43, 44, 45, 46, 47, 48, 49, 50, 51, 52, 53, 54] (by decide +kernel) (by decide +kernel)
set_option maxRecDepth 20000 in
theorem ggL_offer_X11_addThreshold_p3 : GoodIn wsL_offer wsX11_addThreshold_r3 := goodIn_r _ [55, 56, 57, 58, 59, 60, 61, 62, 63, 64, 65, 66, 67, 68, 69, 70, 71, 72, 73, 74, 75, 76, 78, 80] (by decide +kernel) (by decide +kernel)
set_option maxRecDepth 20000 in
theorem ggL_offer_X11_addThreshold_p4 : GoodIn wsL_offer wsX11_addThreshold_r4 := goodIn_r _ [81, 82, 83, 84, 85, 86, 87, 88, 89, 90] (by decide +kernel) (by decide +kernel)
set_option maxRecDepth 20000 in
theorem ggL_offer_X11_addThreshold_p5 : GoodIn wsL_offer wsX110 := goodIn_r _ [133, 134, 135, 136, 137, 138, 139] (by decide +kernel) (by decide +kernel)
set_option maxRecDepth 20000 in
theorem ggL_offer_X11_addThreshold_p6 : GoodIn wsL_offer wsX90 := goodIn_r _ [163, 164, 165, 166] (by decide +kernel) (by decide +kernel)
set_option maxRecDepth 20000 in
theorem ggL_offer_X11_addThreshold_p7 : GoodIn wsL_offer wsX60 := goodIn_r _ [144, 145, 146, 147, 148, 149] (by decide +kernel) (by decide +kernel)
set_option maxRecDepth 20000 in
theorem ggL_offer_X11_addThreshold_p8 : GoodIn wsL_offer wsX20 := goodIn_r _ [150, 151, 152, 153, 154, 155, 156, 157, 158] (by decide +kernel) (by decide +kernel)
set_option maxRecDepth 20000 in
theorem ggL_offer_X11_addThreshold_p9 : GoodIn wsL_offer wsX30 := goodIn_r _ [159, 160, 161, 162] (by decide +kernel) (by decide +kernel)
set_option maxRecDepth 20000 in
theorem ggL_offer_X11_addThreshold_p10 : GoodIn wsL_offer wsX70 := goodIn_r _ [140, 141, 142, 143] (by decide +kernel) (by decide +kernel)
set_option maxRecDepth 20000 in
theorem ggL_offer_X11_addThreshold : GoodIn wsL_offer wsX11_addThreshold := goodIn_ca (goodIn_ca (goodIn_ca (goodIn_app ggL_offer_X11_addThreshold_p0 (goodIn_app (goodIn_app (goodIn_app (goodIn_app (goodIn_app (goodIn_app (goodIn_app ggL_offer_X11_addThreshold_p1 (goodIn_app ggL_offer_X11_addThreshold_p2 (goodIn_app ggL_offer_X11_addThreshold_p3 ggL_offer_X11_addThreshold_p4))) ggL_offer_X11_addThreshold_p5) ggL_offer_X11_addThreshold_p6) ggL_offer_X11_addThreshold_p7) ggL_offer_X11_addThreshold_p8) ggL_offer_X11_addThreshold_p9) ggL_offer_X11_addThreshold_p10)) (goodIn_sub (fun _ h => List.mem_cons_of_mem _ (List.mem_append_left _ (List.mem_append_right _ h))) (by decide +kernel))) (goodIn_sub (fun _ h => List.mem_cons_of_mem _ (List.mem_append_right _ h)) (by decide +kernel))) (goodIn_sub (fun _ h => List.mem_cons_of_mem _ (List.mem_append_left _ (List.mem_append_left _ (List.mem_append_right _ h)))) (by decide +kernel))
set_option maxRecDepth 20000 in
theorem gL_offer_X11_addThreshold : GoodIn wsL_offer (wsV RL 37 RX11 yX11_addThreshold wsX11_addThreshold) := goodIn_app (goodIn_of _ (by decide +kernel)) ggL_offer_X11_addThreshold
theorem dL_offer_0 : decode cL_offer 0 = .ok (.iload_n 1, 1) := by decide +kernel
theorem dL_offer_1 : decode cL_offer 1 = .ok (.bipush 112, 2) := by decide +kernel
theorem dL_offer_3 : decode cL_offer 3 = .ok (.if_icmp .ne 19, 3) := by decide +kernel
theorem dL_offer_6 : decode cL_offer 6 = .ok (.aload_n 0, 1) := by decide +kernel
theorem dL_offer_7 : decode cL_offer 7 = .ok (.aload_n 2, 1) := by decide +kernel
theorem dL_offer_8 : decode cL_offer 8 = .ok (.iconst 0, 1) := by decide +kernel
theorem dL_offer_9 : decode cL_offer 9 = .ok (.iaload, 1) := by decide +kernel
theorem dL_offer_10 : decode cL_offer 10 = .ok (.aload_n 2, 1) := by decide +kernel
theorem dL_offer_11 : decode cL_offer 11 = .ok (.iconst 1, 1) := by decide +kernel
theorem dL_offer_12 : decode cL_offer 12 = .ok (.iaload, 1) := by decide +kernel
theorem dL_offer_13 : decode cL_offer 13 = .ok (.iload_n 3, 1) := by decide +kernel
theorem dL_offer_14 : decode cL_offer 14 = .ok (.iload 4, 2) := by decide +kernel
theorem dL_offer_16 : decode cL_offer 16 = .ok (.invokevirtual 26, 3) := by decide +kernel
theorem dL_offer_19 : decode cL_offer 19 = .ok (.goto 66, 3) := by decide +kernel
theorem dL_offer_22 : decode cL_offer 22 = .ok (.iload_n 1, 1) := by decide +kernel
theorem dL_offer_23 : decode cL_offer 23 = .ok (.bipush 102, 2) := by decide +kernel
theorem dL_offer_25 : decode cL_offer 25 = .ok (.if_icmp .ne 19, 3) := by decide +kernel
theorem dL_offer_28 : decode cL_offer 28 = .ok (.aload_n 0, 1) := by decide +kernel
theorem dL_offer_29 : decode cL_offer 29 = .ok (.aload_n 2, 1) := by decide +kernel
theorem dL_offer_30 : decode cL_offer 30 = .ok (.iconst 0, 1) := by decide +kernel
theorem dL_offer_31 : decode cL_offer 31 = .ok (.iaload, 1) := by decide +kernel
theorem dL_offer_32 : decode cL_offer 32 = .ok (.aload_n 2, 1) := by decide +kernel
theorem dL_offer_33 : decode cL_offer 33 = .ok (.iconst 1, 1) := by decide +kernel
theorem dL_offer_34 : decode cL_offer 34 = .ok (.iaload, 1) := by decide +kernel
theorem dL_offer_35 : decode cL_offer 35 = .ok (.iload_n 3, 1) := by decide +kernel
theorem dL_offer_36 : decode cL_offer 36 = .ok (.iload 4, 2) := by decide +kernel
theorem dL_offer_38 : decode cL_offer 38 = .ok (.invokevirtual 30, 3) := by decide +kernel
theorem dL_offer_41 : decode cL_offer 41 = .ok (.goto 44, 3) := by decide +kernel
theorem dL_offer_44 : decode cL_offer 44 = .ok (.iload_n 1, 1) := by decide +kernel
theorem dL_offer_45 : decode cL_offer 45 = .ok (.bipush 98, 2) := by decide +kernel
theorem dL_offer_47 : decode cL_offer 47 = .ok (.if_icmp .ne 25, 3) := by decide +kernel
theorem dL_offer_50 : decode cL_offer 50 = .ok (.aload_n 0, 1) := by decide +kernel
theorem dL_offer_51 : decode cL_offer 51 = .ok (.aload_n 2, 1) := by decide +kernel
theorem dL_offer_52 : decode cL_offer 52 = .ok (.iconst 0, 1) := by decide +kernel
theorem dL_offer_53 : decode cL_offer 53 = .ok (.iaload, 1) := by decide +kernel
theorem dL_offer_54 : decode cL_offer 54 = .ok (.aload_n 2, 1) := by decide +kernel
theorem dL_offer_55 : decode cL_offer 55 = .ok (.iconst 1, 1) := by decide +kernel
theorem dL_offer_56 : decode cL_offer 56 = .ok (.iaload, 1) := by decide +kernel
theorem dL_offer_57 : decode cL_offer 57 = .ok (.aload_n 2, 1) := by decide +kernel
theorem dL_offer_58 : decode cL_offer 58 = .ok (.iconst 2, 1) := by decide +kernel
theorem dL_offer_59 : decode cL_offer 59 = .ok (.iaload, 1) := by decide +kernel
theorem dL_offer_60 : decode cL_offer 60 = .ok (.aload_n 2, 1) := by decide +kernel
theorem dL_offer_61 : decode cL_offer 61 = .ok (.iconst 3, 1) := by decide +kernel
theorem dL_offer_62 : decode cL_offer 62 = .ok (.iaload, 1) := by decide +kernel
theorem dL_offer_63 : decode cL_offer 63 = .ok (.iload_n 3, 1) := by decide +kernel
theorem dL_offer_64 : decode cL_offer 64 = .ok (.iload 4, 2) := by decide +kernel
theorem dL_offer_66 : decode cL_offer 66 = .ok (.invokevirtual 33, 3) := by decide +kernel
theorem dL_offer_69 : decode cL_offer 69 = .ok (.goto 16, 3) := by decide +kernel
theorem dL_offer_72 : decode cL_offer 72 = .ok (.aload_n 0, 1) := by decide +kernel
theorem dL_offer_73 : decode cL_offer 73 = .ok (.aload_n 2, 1) := by decide +kernel
theorem dL_offer_74 : decode cL_offer 74 = .ok (.iconst 0, 1) := by decide +kernel
theorem dL_offer_75 : decode cL_offer 75 = .ok (.iaload, 1) := by decide +kernel
theorem dL_offer_76 : decode cL_offer 76 = .ok (.aload_n 2, 1) := by decide +kernel
theorem dL_offer_77 : decode cL_offer 77 = .ok (.iconst 1, 1) := by decide +kernel
theorem dL_offer_78 : decode cL_offer 78 = .ok (.iaload, 1) := by decide +kernel
theorem dL_offer_79 : decode cL_offer 79 = .ok (.iload_n 3, 1) := by decide +kernel
theorem dL_offer_80 : decode cL_offer 80 = .ok (.iload 4, 2) := by decide +kernel
theorem dL_offer_82 : decode cL_offer 82 = .ok (.invokevirtual 37, 3) := by decide +kernel
theorem dL_offer_85 : decode cL_offer 85 = .ok (.ireturn, 1) := by decide +kernel
theorem dL_offer_86 : decode cL_offer 86 = .ok (.astore 5, 2) := by decide +kernel
theorem dL_offer_88 : decode cL_offer 88 = .ok (.sipush (-1001), 3) := by decide +kernel
theorem dL_offer_91 : decode cL_offer 91 = .ok (.ireturn, 1) := by decide +kernel
theorem dL_offer_92 : decode cL_offer 92 = .ok (.astore 5, 2) := by decide +kernel
theorem dL_offer_94 : decode cL_offer 94 = .ok (.sipush (-1002), 3) := by decide +kernel
theorem dL_offer_97 : decode cL_offer 97 = .ok (.ireturn, 1) := by decide +kernel
set_option maxRecDepth 20000 in
theorem ggL_of_X11_left_p0 : GoodIn wsL_of [.code yX11_left cX11_left 2 (some .int)] := goodIn_r _ [6] (by decide +kernel) (by decide +kernel)
set_option maxRecDepth 20000 in
theorem ggL_of_X11_left_p1 : GoodIn wsL_of wsX11_left_r1 := goodIn_r _ [7, 8, 9, 10, 11, 12, 13, 14, 15, 16, 17, 18, 19, 20, 21, 22, 23, 24, 25, 26, 27, 28, 29, 30] (by decide +kernel) (by decide +kernel)
set_option maxRecDepth 20000 in
theorem ggL_of_X11_left_p2 : GoodIn wsL_of wsX11_left_r2 := goodIn_r _ [31, 32, 33, 34, 35, 36, 37, 5, 38] (by decide +kernel) (by decide +kernel)
set_option maxRecDepth 20000 in
theorem ggL_of_X11_left_p3 : GoodIn wsL_of wsX110 := goodIn_r _ [320, 321, 322, 323, 324, 325, 326] (by decide +kernel) (by decide +kernel)
set_option maxRecDepth 20000 in
theorem ggL_of_X11_left_p4 : GoodIn wsL_of wsX60 := goodIn_r _ [327, 328, 329, 330, 331, 332] (by decide +kernel) (by decide +kernel)
set_option maxRecDepth 20000 in
theorem ggL_of_X11_left_p5 : GoodIn wsL_of wsX20 := goodIn_r _ [333, 334, 335, 336, 337, 338, 339, 340, 341] (by decide +kernel) (by decide +kernel)
set_option maxRecDepth 20000 in
theorem ggL_of_X11_left_p6 : GoodIn wsL_of wsX30 := goodIn_r _ [342, 343, 344, 345] (by decide +kernel) (by decide +kernel)
set_option maxRecDepth 20000 in
theorem ggL_of_X11_left_p7 : GoodIn wsL_of wsX70 := goodIn_r _ [346, 347, 348, 349] (by decide +kernel) (by decide +kernel)
set_option maxRecDepth 20000 in
theorem ggL_of_X11_left_p8 : GoodIn wsL_of wsX90 := goodIn_r _ [350, 351, 352, 353] (by decide +kernel) (by decide +kernel)
set_option maxRecDepth 20000 in
theorem ggL_of_X11_left : GoodIn wsL_of wsX11_left := goodIn_ca (goodIn_ca (goodIn_app ggL_of_X11_left_p0 (goodIn_app (goodIn_app (goodIn_app (goodIn_app (goodIn_app (goodIn_app (goodIn_app ggL_of_X11_left_p1 ggL_of_X11_left_p2) ggL_of_X11_left_p3) ggL_of_X11_left_p4) ggL_of_X11_left_p5) ggL_of_X11_left_p6) ggL_of_X11_left_p7) ggL_of_X11_left_p8)) (goodIn_sub (fun _ h => List.mem_cons_of_mem _ (List.mem_append_left _ (List.mem_append_left _ (List.mem_append_right _ h)))) (by decide +kernel))) (goodIn_sub (fun _ h => List.mem_cons_of_mem _ (List.mem_append_left _ (List.mem_append_right _ h))) (by decide +kernel))
set_option maxRecDepth 20000 in
theorem gL_of_X11_left : GoodIn wsL_of (wsV RL 40 RX11 yX11_left wsX11_left) := goodIn_app (goodIn_of _ (by decide +kernel)) ggL_of_X11_left
set_option maxRecDepth 20000 in
theorem ggL_of_X11_uses_p0 : GoodIn wsL_of [.code yX11_uses cX11_uses 2 (some .int)] := goodIn_r _ [42] (by decide +kernel) (by decide +kernel)
set_option maxRecDepth 20000 in
theorem ggL_of_X11_uses_p1 : GoodIn wsL_of wsX11_uses_r1 := goodIn_r _ [7, 8, 9, 43, 11, 12, 13, 14, 15, 16, 44, 45, 46, 5, 47, 48, 10, 49, 50, 51, 52, 53, 54, 55] (by decide +kernel) (by decide +kernel)
set_option maxRecDepth 20000 in
theorem ggL_of_X11_uses_p2 : GoodIn wsL_of wsX11_uses_r2 := goodIn_r _ [56, 57, 58, 59, 60, 61, 62, 63, 64, 65, 66, 67, 68, 69, 70, 71, 72, 73, 74, 75, 76, 77, 78, 79] (by decide +kernel) (by decide +kernel)
set_option maxRecDepth 20000 in
theorem ggL_of_X11_uses_p3 : GoodIn wsL_of wsX11_uses_r3 := goodIn_r _ [80, 81, 18, 19, 20, 21, 22, 23, 24, 25, 26, 27, 28, 29, 30, 31, 32, 33, 34, 35, 36, 37, 38, 82] (by decide +kernel) (by decide +kernel)
set_option maxRecDepth 20000 in
theorem ggL_of_X11_uses_p4 : GoodIn wsL_of wsX11_uses_r4 := goodIn_r _ [83, 84, 85, 86, 87, 88, 89, 90, 91, 92, 93, 94, 95, 96, 97, 98, 99, 100, 101, 102, 103, 104, 105, 106] (by decide +kernel) (by decide +kernel)
set_option maxRecDepth 20000 in
theorem ggL_of_X11_uses_p5 : GoodIn wsL_of wsX11_uses_r5 := goodIn_r _ [107, 108, 109, 110, 111, 112, 113, 114, 115, 116, 117, 118, 119, 120, 121, 122, 123, 124, 125, 126, 127, 128, 129, 130] (by decide +kernel) (by decide +kernel)
set_option maxRecDepth 20000 in
theorem ggL_of_X11_uses_p6 : GoodIn wsL_of wsX11_uses_r6 := goodIn_r _ [131, 132, 133, 134, 135, 136, 137, 138, 139, 140, 141, 142, 143, 144, 145, 146, 147, 148, 149, 150, 151, 152, 153, 154] (by decide +kernel) (by decide +kernel)
set_option maxRecDepth 20000 in
theorem ggL_of_X11_uses_p7 : GoodIn wsL_of wsX11_uses_r7 := goodIn_r _ [155, 156, 157, 158, 159, 160, 161, 162, 163, 164, 165, 166, 167, 168, 169, 170, 171, 172, 173, 174, 175, 176, 177, 178] (by decide +kernel) (by decide +kernel)
set_option maxRecDepth 20000 in
theorem ggL_of_X11_uses_p8 : GoodIn wsL_of wsX11_uses_r8 := goodIn_r _ [179, 180, 181, 182, 183, 184, 185, 186, 187, 188, 189, 190, 191, 192, 193, 194, 195, 196, 197, 198, 199, 200, 201, 202] (by decide +kernel) (by decide +kernel)
set_option maxRecDepth 20000 in
theorem ggL_of_X11_uses_p9 : GoodIn wsL_of wsX11_uses_r9 := goodIn_r _ [203, 204, 205, 206, 207, 208, 209, 210, 211, 212, 213, 214, 215, 216, 217, 218, 219, 220, 221, 222, 223, 224, 225, 226] (by decide +kernel) (by decide +kernel)
set_option maxRecDepth 20000 in
theorem ggL_of_X11_uses_p10 : GoodIn wsL_of wsX11_uses_r10 := goodIn_r _ [227, 228, 229, 230, 231, 232, 233, 234, 235, 236, 237, 238, 239, 240, 241, 242, 243, 244, 245, 246, 247, 248, 249, 250] (by decide +kernel) (by decide +kernel)
set_option maxRecDepth 20000 in
theorem ggL_of_X11_uses_p11 : GoodIn wsL_of wsX11_uses_r11 := goodIn_r _ [251, 252, 253, 254, 255, 256, 257, 258, 259, 260, 261, 262, 263, 264, 265, 266, 267, 268, 269, 270, 271, 272, 273, 274] (by decide +kernel) (by decide +kernel)
set_option maxRecDepth 20000 in
theorem ggL_of_X11_uses_p12 : GoodIn wsL_of wsX11_uses_r12 := goodIn_r _ [275, 276, 277, 278, 279, 280, 281, 282, 283, 284, 285, 286, 287, 288, 289, 290, 291, 292, 293, 294, 295, 296, 297, 298] (by decide +kernel) (by decide +kernel)
set_option maxRecDepth 20000 in
theorem ggL_of_X11_uses_p13 : GoodIn wsL_of wsX11_uses_r13 := goodIn_r _ [299, 300, 301, 302, 303, 304, 305, 306, 307] (by decide +kernel) (by decide +kernel)
set_option maxRecDepth 20000 in
theorem ggL_of_X11_uses_p14 : GoodIn wsL_of wsX110 := goodIn_r _ [320, 321, 322, 323, 324, 325, 326] (by decide +kernel) (by decide +kernel)
set_option maxRecDepth 20000 in
theorem ggL_of_X11_uses_p15 : GoodIn wsL_of wsX60 := goodIn_r _ [327, 328, 329, 330, 331, 332] (by decide +kernel) (by decide +kernel)
set_option maxRecDepth 20000 in
theorem ggL_of_X11_uses_p16 : GoodIn wsL_of wsX80 := goodIn_r _ [354, 355, 356, 357, 358, 359, 360, 361, 362, 363, 364, 365] (by decide +kernel) (by decide +kernel)
set_option maxRecDepth 20000 in
theorem ggL_of_X11_uses_p17 : GoodIn wsL_of wsX100 := goodIn_r _ [366, 367, 368, 369, 370] (by decide +kernel) (by decide +kernel)
set_option maxRecDepth 20000 in
theorem ggL_of_X11_uses_p18 : GoodIn wsL_of wsX00 := goodIn_r _ [371, 372, 373, 374, 375] (by decide +kernel) (by decide +kernel)
set_option maxRecDepth 20000 in
theorem ggL_of_X11_uses_p19 : GoodIn wsL_of wsX20 := goodIn_r _ [333, 334, 335, 336, 337, 338, 339, 340, 341] (by decide +kernel) (by decide +kernel)
set_option maxRecDepth 20000 in
theorem ggL_of_X11_uses_p20 : GoodIn wsL_of wsX30 := goodIn_r _ [342, 343, 344, 345] (by decide +kernel) (by decide +kernel)
set_option maxRecDepth 20000 in
theorem ggL_of_X11_uses_p21 : GoodIn wsL_of wsX70 := goodIn_r _ [346, 347, 348, 349] (by decide +kernel) (by decide +kernel)
set_option maxRecDepth 20000 in
theorem ggL_of_X11_uses_p22 : GoodIn wsL_of wsX90 := goodIn_r _ [350, 351, 352, 353] (by decide +kernel) (by decide +kernel)
set_option maxRecDepth 20000 in
theorem ggL_of_X11_uses_p23 : GoodIn wsL_of wsX10 := goodIn_r _ [376, 377, 378, 379] (by decide +kernel) (by decide +kernel)
set_option maxRecDepth 20000 in
theorem ggL_of_X11_uses : GoodIn wsL_of wsX11_uses := goodIn_ca (goodIn_ca (goodIn_ca (goodIn_app ggL_of_X11_uses_p0 (goodIn_app (goodIn_app (goodIn_app (goodIn_app (goodIn_app (goodIn_app (goodIn_app (goodIn_app (goodIn_app (goodIn_app (goodIn_app ggL_of_X11_uses_p1 (goodIn_app ggL_of_X11_uses_p2 (goodIn_app ggL_of_X11_uses_p3 (goodIn_app ggL_of_X11_uses_p4 (goodIn_app ggL_of_X11_uses_p5 (goodIn_app ggL_of_X11_uses_p6 (goodIn_app ggL_of_X11_uses_p7 (goodIn_app ggL_of_X11_uses_p8 (goodIn_app ggL_of_X11_uses_p9 (goodIn_app ggL_of_X11_uses_p10 (goodIn_app ggL_of_X11_uses_p11 (goodIn_app ggL_of_X11_uses_p12 ggL_of_X11_uses_p13)))))))))))) ggL_of_X11_uses_p14) ggL_of_X11_uses_p15) ggL_of_X11_uses_p16) ggL_of_X11_uses_p17) ggL_of_X11_uses_p18) ggL_of_X11_uses_p19) ggL_of_X11_uses_p20) ggL_of_X11_uses_p21) ggL_of_X11_uses_p22) ggL_of_X11_uses_p23)) (goodIn_sub (fun _ h => List.mem_cons_of_mem _ (List.mem_append_left _ (List.mem_append_left _ (List.mem_append_right _ h)))) (by decide +kernel))) (goodIn_sub (fun _ h => List.mem_cons_of_mem _ (List.mem_append_left _ (List.mem_append_right _ h))) (by decide +kernel))) (goodIn_sub (fun _ h => List.mem_cons_of_mem _ (List.mem_append_right _ h)) (by decide +kernel))
set_option maxRecDepth 20000 in
theorem gL_of_X11_uses : GoodIn wsL_of (wsV RL 43 RX11 yX11_uses wsX11_uses) := goodIn_app (goodIn_of _ (by decide +kernel)) ggL_of_X11_uses
set_option maxRecDepth 20000 in
theorem ggL_of_X11_reason_p0 : GoodIn wsL_of [.code yX11_reason cX11_reason 2 (some .char)] := goodIn_r _ [311] (by decide +kernel) (by decide +kernel)
set_option maxRecDepth 20000 in
theorem ggL_of_X11_reason_p1 : GoodIn wsL_of wsX11_reason_r1 := goodIn_r _ [7, 8, 9, 43, 10, 11, 12, 13, 14, 15, 16, 44, 45, 46, 5, 47, 48, 49, 50, 51, 52, 53, 54, 55] (by decide +kernel) (by decide +kernel)
set_option maxRecDepth 20000 in
theorem ggL_of_X11_reason_p2 : GoodIn wsL_of wsX11_reason_r2 := goodIn_r _ [56, 57, 58, 59, 60, 61, 62, 63, 64, 65, 66, 67, 68, 69, 70, 71, 72, 73, 74, 75, 76, 77, 78, 79] (by decide +kernel) (by decide +kernel)
set_option maxRecDepth 20000 in
theorem ggL_of_X11_reason_p3 : GoodIn wsL_of wsX11_reason_r3 := goodIn_r _ [80, 81, 18, 19, 20, 21, 22, 23, 24, 25, 26, 27, 28, 29, 30, 31, 32, 33, 34, 35, 36, 37, 38, 82] (by decide +kernel) (by decide +kernel)
set_option maxRecDepth 20000 in
theorem ggL_of_X11_reason_p4 : GoodIn wsL_of wsX11_reason_r4 := goodIn_r _ [83, 84, 85, 86, 87, 88, 89, 90, 91, 92, 93, 94, 95, 96, 97, 98, 99, 100, 101, 102, 103, 104, 105, 106] (by decide +kernel) (by decide +kernel)
set_option maxRecDepth 20000 in
theorem ggL_of_X11_reason_p5 : GoodIn wsL_of wsX11_reason_r5 := goodIn_r _ [107, 108, 109, 110, 111, 112, 113, 114, 115, 116, 117, 118, 119, 120, 121, 122, 123, 124, 125, 126, 127, 128, 129, 130] (by decide +kernel) (by decide +kernel)
set_option maxRecDepth 20000 in
theorem ggL_of_X11_reason_p6 : GoodIn wsL_of wsX11_reason_r6 := goodIn_r _ [131, 132, 133, 134, 135, 136, 137, 138, 139, 140, 141, 142, 143, 144, 145, 146, 147, 148, 149, 150, 151, 152, 153, 154] (by decide +kernel) (by decide +kernel)
set_option maxRecDepth 20000 in
theorem ggL_of_X11_reason_p7 : GoodIn wsL_of wsX11_reason_r7 := goodIn_r _ [155, 156, 157, 158, 159, 160, 161, 162, 163, 164, 165, 166, 167, 168, 169, 170, 171, 172, 173, 174, 175, 176, 177, 178] (by decide +kernel) (by decide +kernel)
set_option maxRecDepth 20000 in
theorem ggL_of_X11_reason_p8 : GoodIn wsL_of wsX11_reason_r8 := goodIn_r _ [179, 180, 181, 182, 183, 184, 185, 186, 187, 188, 189, 190, 191, 192, 193, 194, 195, 196, 197, 198, 199, 200, 201, 202] (by decide +kernel) (by decide +kernel)
set_option maxRecDepth 20000 in
theorem ggL_of_X11_reason_p9 : GoodIn wsL_of wsX11_reason_r9 := goodIn_r _ [203, 204, 205, 206, 207, 208, 209, 210, 211, 212, 213, 214, 215, 216, 217, 218, 219, 220, 221, 222, 223, 224, 225, 226] (by decide +kernel) (by decide +kernel)
set_option maxRecDepth 20000 in
theorem ggL_of_X11_reason_p10 : GoodIn wsL_of wsX11_reason_r10 := goodIn_r _ [227, 228, 229, 230, 231, 232, 233, 234, 235, 236, 237, 238, 239, 240, 241, 242, 243, 244, 245, 246, 247, 248, 249, 250] (by decide +kernel) (by decide +kernel)
set_option maxRecDepth 20000 in
theorem ggL_of_X11_reason_p11 : GoodIn wsL_of wsX11_reason_r11 := goodIn_r _ [251, 252, 253, 254, 255, 256, 257, 258, 259, 260, 261, 262, 263, 264, 265, 266, 267, 268, 269, 270, 271, 272, 273, 274] (by decide +kernel) (by decide +kernel)
set_option maxRecDepth 20000 in
theorem ggL_of_X11_reason_p12 : GoodIn wsL_of wsX11_reason_r12 := goodIn_r _ [275, 276, 277, 278, 279, 280, 281, 282, 283, 284, 285, 286, 287, 288, 289, 290, 291, 292, 293, 294, 295, 296, 297, 298] (by decide +kernel) (by decide +kernel)
set_option maxRecDepth 20000 in
theorem ggL_of_X11_reason_p13 : GoodIn wsL_of wsX11_reason_r13 := goodIn_r _ [299, 300, 301, 302, 303, 304, 305, 306, 307, 17, 312, 313, 314, 315, 316, 317, 318, 319] (by decide +kernel) (by decide +kernel)
set_option maxRecDepth 20000 in
theorem ggL_of_X11_reason_p14 : GoodIn wsL_of wsX110 := goodIn_r _ [320, 321, 322, 323, 324, 325, 326] (by decide +kernel) (by decide +kernel)
set_option maxRecDepth 20000 in
theorem ggL_of_X11_reason_p15 : GoodIn wsL_of wsX60 := goodIn_r _ [327, 328, 329, 330, 331, 332] (by decide +kernel) (by decide +kernel)
set_option maxRecDepth 20000 in
theorem ggL_of_X11_reason_p16 : GoodIn wsL_of wsX80 := goodIn_r _ [354, 355, 356, 357, 358, 359, 360, 361, 362, 363, 364, 365] (by decide +kernel) (by decide +kernel)
set_option maxRecDepth 20000 in
theorem ggL_of_X11_reason_p17 : GoodIn wsL_of wsX100 := goodIn_r _ [366, 367, 368, 369, 370] (by decide +kernel) (by decide +kernel)
set_option maxRecDepth 20000 in
theorem ggL_of_X11_reason_p18 : GoodIn wsL_of wsX00 := goodIn_r _ [371, 372, 373, 374, 375] (by decide +kernel) (by decide +kernel)
set_option maxRecDepth 20000 in
theorem ggL_of_X11_reason_p19 : GoodIn wsL_of wsX20 := goodIn_r _ [333, 334, 335, 336, 337, 338, 339, 340, 341] (by decide +kernel) (by decide +kernel)
set_option maxRecDepth 20000 in
theorem ggL_of_X11_reason_p20 : GoodIn wsL_of wsX30 := goodIn_r _ [342, 343, 344, 345] (by decide +kernel) (by decide +kernel)
set_option maxRecDepth 20000 in
theorem ggL_of_X11_reason_p21 : GoodIn wsL_of wsX70 := goodIn_r _ [346, 347, 348, 349] (by decide +kernel) (by decide +kernel)
set_option maxRecDepth 20000 in
theorem ggL_of_X11_reason_p22 : GoodIn wsL_of wsX90 := goodIn_r _ [350, 351, 352, 353] (by decide +kernel) (by decide +kernel)
set_option maxRecDepth 20000 in
theorem ggL_of_X11_reason_p23 : GoodIn wsL_of wsX10 := goodIn_r _ [376, 377, 378, 379] (by decide +kernel) (by decide +kernel)
set_option maxRecDepth 20000 in
theorem ggL_of_X11_reason : GoodIn wsL_of wsX11_reason := goodIn_ca (goodIn_ca (goodIn_ca (goodIn_app ggL_of_X11_reason_p0 (goodIn_app (goodIn_app (goodIn_app (goodIn_app (goodIn_app (goodIn_app (goodIn_app (goodIn_app (goodIn_app (goodIn_app (goodIn_app ggL_of_X11_reason_p1 (goodIn_app ggL_of_X11_reason_p2 (goodIn_app ggL_of_X11_reason_p3 (goodIn_app ggL_of_X11_reason_p4 (goodIn_app ggL_of_X11_reason_p5 (goodIn_app ggL_of_X11_reason_p6 (goodIn_app ggL_of_X11_reason_p7 (goodIn_app ggL_of_X11_reason_p8 (goodIn_app ggL_of_X11_reason_p9 (goodIn_app ggL_of_X11_reason_p10 (goodIn_app ggL_of_X11_reason_p11 (goodIn_app ggL_of_X11_reason_p12 ggL_of_X11_reason_p13)))))))))))) ggL_of_X11_reason_p14) ggL_of_X11_reason_p15) ggL_of_X11_reason_p16) ggL_of_X11_reason_p17) ggL_of_X11_reason_p18) ggL_of_X11_reason_p19) ggL_of_X11_reason_p20) ggL_of_X11_reason_p21) ggL_of_X11_reason_p22) ggL_of_X11_reason_p23)) (goodIn_sub (fun _ h => List.mem_cons_of_mem _ (List.mem_append_left _ (List.mem_append_left _ (List.mem_append_right _ h)))) (by decide +kernel))) (goodIn_sub (fun _ h => List.mem_cons_of_mem _ (List.mem_append_left _ (List.mem_append_right _ h))) (by decide +kernel))) (goodIn_sub (fun _ h => List.mem_cons_of_mem _ (List.mem_append_right _ h)) (by decide +kernel))
set_option maxRecDepth 20000 in
theorem gL_of_X11_reason : GoodIn wsL_of (wsV RL 46 RX11 yX11_reason wsX11_reason) := goodIn_app (goodIn_of _ (by decide +kernel)) ggL_of_X11_reason
theorem dL_of_0 : decode cL_of 0 = .ok (.iload_n 2, 1) := by decide +kernel
theorem dL_of_1 : decode cL_of 1 = .ok (.bipush 108, 2) := by decide +kernel
theorem dL_of_3 : decode cL_of 3 = .ok (.if_icmp .ne 11, 3) := by decide +kernel
theorem dL_of_6 : decode cL_of 6 = .ok (.aload_n 0, 1) := by decide +kernel
theorem dL_of_7 : decode cL_of 7 = .ok (.iload_n 1, 1) := by decide +kernel
theorem dL_of_8 : decode cL_of 8 = .ok (.invokevirtual 40, 3) := by decide +kernel
theorem dL_of_11 : decode cL_of 11 = .ok (.goto 22, 3) := by decide +kernel
theorem dL_of_14 : decode cL_of 14 = .ok (.iload_n 2, 1) := by decide +kernel
theorem dL_of_15 : decode cL_of 15 = .ok (.bipush 117, 2) := by decide +kernel
theorem dL_of_17 : decode cL_of 17 = .ok (.if_icmp .ne 11, 3) := by decide +kernel
theorem dL_of_20 : decode cL_of 20 = .ok (.aload_n 0, 1) := by decide +kernel
theorem dL_of_21 : decode cL_of 21 = .ok (.iload_n 1, 1) := by decide +kernel
theorem dL_of_22 : decode cL_of 22 = .ok (.invokevirtual 43, 3) := by decide +kernel
theorem dL_of_25 : decode cL_of 25 = .ok (.goto 8, 3) := by decide +kernel
theorem dL_of_28 : decode cL_of 28 = .ok (.aload_n 0, 1) := by decide +kernel
theorem dL_of_29 : decode cL_of 29 = .ok (.iload_n 1, 1) := by decide +kernel
theorem dL_of_30 : decode cL_of 30 = .ok (.invokevirtual 46, 3) := by decide +kernel
theorem dL_of_33 : decode cL_of 33 = .ok (.ireturn, 1) := by decide +kernel
theorem dL_of_34 : decode cL_of 34 = .ok (.astore_n 3, 1) := by decide +kernel
theorem dL_of_35 : decode cL_of 35 = .ok (.sipush (-1001), 3) := by decide +kernel
theorem dL_of_38 : decode cL_of 38 = .ok (.ireturn, 1) := by decide +kernel
set_option maxRecDepth 20000 in
theorem ggL_item_X11_netPrice_p0 : GoodIn wsL_item [.code yX11_netPrice cX11_netPrice 3 (some .int)] := goodIn_r _ [6] (by decide +kernel) (by decide +kernel)
set_option maxRecDepth 20000 in
theorem ggL_item_X11_netPrice_p1 : GoodIn wsL_item wsX11_netPrice_r1 := goodIn_r _ [7, 8, 9, 10, 11, 12, 13, 14, 15, 16, 17, 18, 5, 19, 20, 21, 22, 23, 24, 25, 26, 27, 28, 29] (by decide +kernel) (by decide +kernel)
set_option maxRecDepth 20000 in
theorem ggL_item_X11_netPrice_p2 : GoodIn wsL_item wsX11_netPrice_r2 := goodIn_r _ [30, 31, 32, 33, 34, 35, 36, 37, 38, 39, 40, 41, 42, 43, 44, 45, 46, 47, 48, 49, 50, 51, 52, 53] (by decide +kernel) (by decide +kernel)
set_option maxRecDepth 20000 in
theorem ggL_item_X11_netPrice_p3 : GoodIn wsL_item wsX11_netPrice_r3 := goodIn_r _ [54, 55, 56, 57, 58, 59, 60, 61, 62, 63, 64, 65, 66, 67, 68, 69, 70, 71, 72, 73, 74, 75, 76, 77] (by decide +kernel) (by decide +kernel)
set_option maxRecDepth 20000 in
theorem ggL_item_X11_netPrice_p4 : GoodIn wsL_item wsX11_netPrice_r4 := goodIn_r _ [78, 79, 80, 81, 82, 83, 84, 85, 86, 87, 88, 89, 90, 91, 92, 93, 94, 95, 96, 97, 98, 99, 100, 101] (by decide +kernel) (by decide +kernel)
set_option maxRecDepth 20000 in
theorem ggL_item_X11_netPrice_p5 : GoodIn wsL_item wsX11_netPrice_r5 := goodIn_r _ [102, 103, 104, 105, 106, 107, 108, 109, 110, 111, 112, 113, 114, 115, 116, 117, 118, 119, 120, 121, 122, 123, 124, 125] (by decide +kernel) (by decide +kernel)
set_option maxRecDepth 20000 in
theorem ggL_item_X11_netPrice_p6 : GoodIn wsL_item wsX11_netPrice_r6 := goodIn_r _ [126, 127, 128, 129, 130, 131, 132, 133, 134, 135, 136, 137, 138, 139, 140, 141, 142, 143, 144, 145, 146, 147, 148, 149] (by decide +kernel) (by decide +kernel)
set_option maxRecDepth 20000 in
theorem ggL_item_X11_netPrice_p7 : GoodIn wsL_item wsX11_netPrice_r7 := goodIn_r _ [150, 151, 152, 153, 154, 155, 156, 157, 158, 159, 160, 161, 162, 163, 164, 165, 166, 167, 168, 169, 170, 171, 172, 173] (by decide +kernel) (by decide +kernel)
set_option maxRecDepth 20000 in
theorem ggL_item_X11_netPrice_p8 : GoodIn wsL_item wsX11_netPrice_r8 := goodIn_r _ [174, 175, 176, 177, 178, 179, 180, 181, 182, 183, 184, 185, 186, 187, 188, 189, 190, 191, 192, 193, 194, 195, 196, 197] (by decide +kernel) (by decide +kernel)
set_option maxRecDepth 20000 in
theorem ggL_item_X11_netPrice_p9 : GoodIn wsL_item wsX11_netPrice_r9 := goodIn_r _ [198, 199, 200, 201, 202, 203, 204, 205, 206, 207, 208, 209, 210, 211, 212, 213, 214, 215, 216, 217, 218, 219, 220, 221] (by decide +kernel) (by decide +kernel)
set_option maxRecDepth 20000 in
theorem ggL_item_X11_netPrice_p10 : GoodIn wsL_item wsX11_netPrice_r10 := goodIn_r _ [222, 223, 224, 225, 226, 227, 228, 229, 230, 231, 232, 233, 234, 235, 236, 237, 238, 239, 240, 241, 242, 243, 244, 245] (by decide +kernel) (by decide +kernel)
set_option maxRecDepth 20000 in
theorem ggL_item_X11_netPrice_p11 : GoodIn wsL_item wsX11_netPrice_r11 := goodIn_r _ [246, 247, 248, 249, 250, 251, 252, 253, 254, 255, 256, 257, 258, 259, 260, 261, 262, 263, 264, 265, 266, 267, 268, 269] (by decide +kernel) (by decide +kernel)
set_option maxRecDepth 20000 in
theorem ggL_item_X11_netPrice_p12 : GoodIn wsL_item wsX11_netPrice_r12 := goodIn_r _ [270, 271, 272, 273, 274, 275, 276, 277, 278, 279, 280, 281, 282, 283, 284, 285, 286, 287, 288, 289, 290, 291, 292, 293] (by decide +kernel) (by decide +kernel)
set_option maxRecDepth 20000 in
theorem ggL_item_X11_netPrice_p13 : GoodIn wsL_item wsX11_netPrice_r13 := goodIn_r _ [294, 295, 296, 297, 298, 299, 300, 301, 302] (by decide +kernel) (by decide +kernel)
set_option maxRecDepth 20000 in
theorem ggL_item_X11_netPrice_p14 : GoodIn wsL_item wsX110 := goodIn_r _ [312, 313, 314, 315, 316, 317, 318] (by decide +kernel) (by decide +kernel)
set_option maxRecDepth 20000 in
theorem ggL_item_X11_netPrice_p15 : GoodIn wsL_item wsX00 := goodIn_r _ [319, 320, 321, 322, 323] (by decide +kernel) (by decide +kernel)
set_option maxRecDepth 20000 in
theorem ggL_item_X11_netPrice_p16 : GoodIn wsL_item wsX80 := goodIn_r _ [324, 325, 326, 327, 328, 329, 330, 331, 332, 333, 334, 335] (by decide +kernel) (by decide +kernel)
set_option maxRecDepth 20000 in
theorem ggL_item_X11_netPrice_p17 : GoodIn wsL_item wsX100 := goodIn_r _ [336, 337, 338, 339, 340] (by decide +kernel) (by decide +kernel)
set_option maxRecDepth 20000 in
theorem ggL_item_X11_netPrice_p18 : GoodIn wsL_item wsX60 := goodIn_r _ [341, 342, 343, 344, 345, 346] (by decide +kernel) (by decide +kernel)
set_option maxRecDepth 20000 in
theorem ggL_item_X11_netPrice_p19 : GoodIn wsL_item wsX20 := goodIn_r _ [347, 348, 349, 350, 351, 352, 353, 354, 355] (by decide +kernel) (by decide +kernel)
set_option maxRecDepth 20000 in
theorem ggL_item_X11_netPrice_p20 : GoodIn wsL_item wsX30 := goodIn_r _ [356, 357, 358, 359] (by decide +kernel) (by decide +kernel)
set_option maxRecDepth 20000 in
theorem ggL_item_X11_netPrice_p21 : GoodIn wsL_item wsX70 := goodIn_r _ [360, 361, 362, 363] (by decide +kernel) (by decide +kernel)
set_option maxRecDepth 20000 in
theorem ggL_item_X11_netPrice_p22 : GoodIn wsL_item wsX90 := goodIn_r _ [364, 365, 366, 367] (by decide +kernel) (by decide +kernel)
set_option maxRecDepth 20000 in
theorem ggL_item_X11_netPrice_p23 : GoodIn wsL_item wsX10 := goodIn_r _ [368, 369, 370, 371] (by decide +kernel) (by decide +kernel)
set_option maxRecDepth 20000 in
theorem ggL_item_X11_netPrice : GoodIn wsL_item wsX11_netPrice := goodIn_ca (goodIn_ca (goodIn_ca (goodIn_app ggL_item_X11_netPrice_p0 (goodIn_app (goodIn_app (goodIn_app (goodIn_app (goodIn_app (goodIn_app (goodIn_app (goodIn_app (goodIn_app (goodIn_app (goodIn_app ggL_item_X11_netPrice_p1 (goodIn_app ggL_item_X11_netPrice_p2 (goodIn_app ggL_item_X11_netPrice_p3 (goodIn_app ggL_item_X11_netPrice_p4 (goodIn_app ggL_item_X11_netPrice_p5 (goodIn_app ggL_item_X11_netPrice_p6 (goodIn_app ggL_item_X11_netPrice_p7 (goodIn_app ggL_item_X11_netPrice_p8 (goodIn_app ggL_item_X11_netPrice_p9 (goodIn_app ggL_item_X11_netPrice_p10 (goodIn_app ggL_item_X11_netPrice_p11 (goodIn_app ggL_item_X11_netPrice_p12 ggL_item_X11_netPrice_p13)))))))))))) ggL_item_X11_netPrice_p14) ggL_item_X11_netPrice_p15) ggL_item_X11_netPrice_p16) ggL_item_X11_netPrice_p17) ggL_item_X11_netPrice_p18) ggL_item_X11_netPrice_p19) ggL_item_X11_netPrice_p20) ggL_item_X11_netPrice_p21) ggL_item_X11_netPrice_p22) ggL_item_X11_netPrice_p23)) (goodIn_sub (fun _ h => List.mem_cons_of_mem _ (List.mem_append_left _ (List.mem_append_left _ (List.mem_append_right _ h)))) (by decide +kernel))) (goodIn_sub (fun _ h => List.mem_cons_of_mem _ (List.mem_append_left _ (List.mem_append_right _ h))) (by decide +kernel))) (goodIn_sub (fun _ h => List.mem_cons_of_mem _ (List.mem_append_right _ h)) (by decide +kernel))
set_option maxRecDepth 20000 in
theorem gL_item_X11_netPrice : GoodIn wsL_item (wsV RL 52 RX11 yX11_netPrice wsX11_netPrice) := goodIn_app (goodIn_of _ (by decide +kernel)) ggL_item_X11_netPrice
set_option maxRecDepth 20000 in
theorem ggL_item_X11_offerOf_p0 : GoodIn wsL_item [.code yX11_offerOf cX11_offerOf 3 (some .int)] := goodIn_r _ [306] (by decide +kernel) (by decide +kernel)
set_option maxRecDepth 20000 in
theorem ggL_item_X11_offerOf_p1 : GoodIn wsL_item wsX11_offerOf_r1 := goodIn_r _ [7, 8, 9, 25, 11, 12, 13, 14, 15, 16, 17, 18, 5, 19, 20, 21, 22, 23, 24, 26, 10, 27, 28, 29] (by decide +kernel) (by decide +kernel)
set_option maxRecDepth 20000 in
theorem ggL_item_X11_offerOf_p2 : GoodIn wsL_item wsX11_offerOf_r2 := goodIn_r _ [30, 31, 32, 33, 34, 35, 36, 37, 38, 39, 40, 41, 42, 43, 44, 45, 46, 47, 48, 49, 50, 51, 52, 53] (by decide +kernel) (by decide +kernel)
set_option maxRecDepth 20000 in
theorem ggL_item_X11_offerOf_p3 : GoodIn wsL_item wsX11_offerOf_r3 := goodIn_r _ [54, 55, 56, 57, 58, 59, 60, 61, 62, 63, 64, 65, 66, 67, 68, 69, 70, 71, 72, 73, 74, 75, 76, 77] (by decide +kernel) (by decide +kernel)
set_option maxRecDepth 20000 in
theorem ggL_item_X11_offerOf_p4 : GoodIn wsL_item wsX11_offerOf_r4 := goodIn_r _ [78, 79, 80, 81, 82, 83, 84, 85, 86, 87, 88, 89, 90, 91, 92, 93, 94, 95, 96, 97, 98, 99, 100, 101] (by decide +kernel) (by decide +kernel)
set_option maxRecDepth 20000 in
theorem ggL_item_X11_offerOf_p5 : GoodIn wsL_item wsX11_offerOf_r5 := goodIn_r _ [102, 103, 104, 105, 106, 107, 108, 109, 110, 111, 112, 113, 114, 115, 116, 117, 118, 119, 120, 121, 122, 123, 124, 125] (by decide +kernel) (by decide +kernel)
set_option maxRecDepth 20000 in
theorem ggL_item_X11_offerOf_p6 : GoodIn wsL_item wsX11_offerOf_r6 := goodIn_r _ [126, 127, 128, 129, 130, 131, 132, 133, 134, 135, 136, 137, 138, 139, 140, 141, 142, 143, 144, 145, 146, 147, 148, 149] (by decide +kernel) (by decide +kernel)
set_option maxRecDepth 20000 in
theorem ggL_item_X11_offerOf_p7 : GoodIn wsL_item wsX11_offerOf_r7 := goodIn_r _ [150, 151, 152, 153, 154, 155, 156, 157, 158, 159, 160, 161, 162, 163, 164, 165, 166, 167, 168, 169, 170, 171, 172, 173] (by decide +kernel) (by decide +kernel)
set_option maxRecDepth 20000 in
theorem ggL_item_X11_offerOf_p8 : GoodIn wsL_item wsX11_offerOf_r8 := goodIn_r _ [174, 175, 176, 177, 178, 179, 180, 181, 182, 183, 184, 185, 186, 187, 188, 189, 190, 191, 192, 193, 194, 195, 196, 197] (by decide +kernel) (by decide +kernel)
set_option maxRecDepth 20000 in
theorem ggL_item_X11_offerOf_p9 : GoodIn wsL_item wsX11_offerOf_r9 := goodIn_r _ [198, 199, 200, 201, 202, 203, 204, 205, 206, 207, 208, 209, 210, 211, 212, 213, 214, 215, 216, 217, 218, 219, 220, 221] (by decide +kernel) (by decide +kernel)
set_option maxRecDepth 20000 in
theorem ggL_item_X11_offerOf_p10 : GoodIn wsL_item wsX11_offerOf_r10 := goodIn_r _ [222, 223, 224, 225, 226, 227, 228, 229, 230, 231, 232, 233, 234, 235, 236, 237, 238, 239, 240, 241, 242, 243, 244, 245] (by decide +kernel) (by decide +kernel)
set_option maxRecDepth 20000 in
theorem ggL_item_X11_offerOf_p11 : GoodIn wsL_item wsX11_offerOf_r11 := goodIn_r _ [246, 247, 248, 249, 250, 251, 252, 253, 254, 255, 256, 257, 258, 259, 260, 261, 262, 263, 264, 265, 266, 267, 268, 269] (by decide +kernel) (by decide +kernel)
set_option maxRecDepth 20000 in
theorem ggL_item_X11_offerOf_p12 : GoodIn wsL_item wsX11_offerOf_r12 := goodIn_r _ [270, 271, 272, 273, 274, 275, 276, 277, 278, 279, 280, 281, 282, 283, 284, 285, 286, 287, 288, 289, 290, 291, 292, 293] (by decide +kernel) (by decide +kernel)
set_option maxRecDepth 20000 in
theorem ggL_item_X11_offerOf_p13 : GoodIn wsL_item wsX11_offerOf_r13 := goodIn_r _ [294, 295, 296, 297, 298, 307, 308, 309, 310, 311] (by decide +kernel) (by decide +kernel)
set_option maxRecDepth 20000 in
theorem ggL_item_X11_offerOf_p14 : GoodIn wsL_item wsX110 := goodIn_r _ [312, 313, 314, 315, 316, 317, 318] (by decide +kernel) (by decide +kernel)
set_option maxRecDepth 20000 in
theorem ggL_item_X11_offerOf_p15 : GoodIn wsL_item wsX00 := goodIn_r _ [319, 320, 321, 322, 323] (by decide +kernel) (by decide +kernel)
set_option maxRecDepth 20000 in
theorem ggL_item_X11_offerOf_p16 : GoodIn wsL_item wsX80 := goodIn_r _ [324, 325, 326, 327, 328, 329, 330, 331, 332, 333, 334, 335] (by decide +kernel) (by decide +kernel)
set_option maxRecDepth 20000 in
theorem ggL_item_X11_offerOf_p17 : GoodIn wsL_item wsX100 := goodIn_r _ [336, 337, 338, 339, 340] (by decide +kernel) (by decide +kernel)
set_option maxRecDepth 20000 in
theorem ggL_item_X11_offerOf_p18 : GoodIn wsL_item wsX60 := goodIn_r _ [341, 342, 343, 344, 345, 346] (by decide +kernel) (by decide +kernel)
set_option maxRecDepth 20000 in
theorem ggL_item_X11_offerOf_p19 : GoodIn wsL_item wsX20 := goodIn_r _ [347, 348, 349, 350, 351, 352, 353, 354, 355] (by decide +kernel) (by decide +kernel)
set_option maxRecDepth 20000 in
theorem ggL_item_X11_offerOf_p20 : GoodIn wsL_item wsX30 := goodIn_r _ [356, 357, 358, 359] (by decide +kernel) (by decide +kernel)
set_option maxRecDepth 20000 in
theorem ggL_item_X11_offerOf_p21 : GoodIn wsL_item wsX70 := goodIn_r _ [360, 361, 362, 363] (by decide +kernel) (by decide +kernel)
set_option maxRecDepth 20000 in
theorem ggL_item_X11_offerOf_p22 : GoodIn wsL_item wsX90 := goodIn_r _ [364, 365, 366, 367] (by decide +kernel) (by decide +kernel)
set_option maxRecDepth 20000 in
theorem ggL_item_X11_offerOf_p23 : GoodIn wsL_item wsX10 := goodIn_r _ [368, 369, 370, 371] (by decide +kernel) (by decide +kernel)
set_option maxRecDepth 20000 in
theorem ggL_item_X11_offerOf : GoodIn wsL_item wsX11_offerOf := goodIn_ca (goodIn_ca (goodIn_ca (goodIn_app ggL_item_X11_offerOf_p0 (goodIn_app (goodIn_app (goodIn_app (goodIn_app (goodIn_app (goodIn_app (goodIn_app (goodIn_app (goodIn_app (goodIn_app (goodIn_app ggL_item_X11_offerOf_p1 (goodIn_app ggL_item_X11_offerOf_p2 (goodIn_app ggL_item_X11_offerOf_p3 (goodIn_app ggL_item_X11_offerOf_p4 (goodIn_app ggL_item_X11_offerOf_p5 (goodIn_app ggL_item_X11_offerOf_p6 (goodIn_app ggL_item_X11_offerOf_p7 (goodIn_app ggL_item_X11_offerOf_p8 (goodIn_app ggL_item_X11_offerOf_p9 (goodIn_app ggL_item_X11_offerOf_p10 (goodIn_app ggL_item_X11_offerOf_p11 (goodIn_app ggL_item_X11_offerOf_p12 ggL_item_X11_offerOf_p13)))))))))))) ggL_item_X11_offerOf_p14) ggL_item_X11_offerOf_p15) ggL_item_X11_offerOf_p16) ggL_item_X11_offerOf_p17) ggL_item_X11_offerOf_p18) ggL_item_X11_offerOf_p19) ggL_item_X11_offerOf_p20) ggL_item_X11_offerOf_p21) ggL_item_X11_offerOf_p22) ggL_item_X11_offerOf_p23)) (goodIn_sub (fun _ h => List.mem_cons_of_mem _ (List.mem_append_left _ (List.mem_append_left _ (List.mem_append_right _ h)))) (by decide +kernel))) (goodIn_sub (fun _ h => List.mem_cons_of_mem _ (List.mem_append_left _ (List.mem_append_right _ h))) (by decide +kernel))) (goodIn_sub (fun _ h => List.mem_cons_of_mem _ (List.mem_append_right _ h)) (by decide +kernel))
set_option maxRecDepth 20000 in
theorem gL_item_X11_offerOf : GoodIn wsL_item (wsV RL 55 RX11 yX11_offerOf wsX11_offerOf) := goodIn_app (goodIn_of _ (by decide +kernel)) ggL_item_X11_offerOf
theorem dL_item_0 : decode cL_item 0 = .ok (.iload_n 2, 1) := by decide +kernel
theorem dL_item_1 : decode cL_item 1 = .ok (.ifCond .eq 11, 3) := by decide +kernel
theorem dL_item_4 : decode cL_item 4 = .ok (.aload_n 0, 1) := by decide +kernel
theorem dL_item_5 : decode cL_item 5 = .ok (.iload_n 1, 1) := by decide +kernel
theorem dL_item_6 : decode cL_item 6 = .ok (.invokevirtual 52, 3) := by decide +kernel
theorem dL_item_9 : decode cL_item 9 = .ok (.goto 8, 3) := by decide +kernel
theorem dL_item_12 : decode cL_item 12 = .ok (.aload_n 0, 1) := by decide +kernel
theorem dL_item_13 : decode cL_item 13 = .ok (.iload_n 1, 1) := by decide +kernel
theorem dL_item_14 : decode cL_item 14 = .ok (.invokevirtual 55, 3) := by decide +kernel
theorem dL_item_17 : decode cL_item 17 = .ok (.ireturn, 1) := by decide +kernel
theorem dL_item_18 : decode cL_item 18 = .ok (.astore_n 3, 1) := by decide +kernel
theorem dL_item_19 : decode cL_item 19 = .ok (.sipush (-1001), 3) := by decide +kernel
theorem dL_item_22 : decode cL_item 22 = .ok (.ireturn, 1) := by decide +kernel
set_option maxRecDepth 20000 in
theorem ggL_tries_X11_bestByTrying_p0 : GoodIn wsL_tries [.code yX11_bestByTrying cX11_bestByTrying 1 (some .int)] := goodIn_r _ [6] (by decide +kernel) (by decide +kernel)
set_option maxRecDepth 20000 in
theorem ggL_tries_X11_bestByTrying_p1 : GoodIn wsL_tries wsX11_bestByTrying_r1 := goodIn_r _ [7, 8, 9, 10, 11, 12, 13, 14, 15, 16, 17, 18, 19, 5, 20, 21, 22, 23, 24, 25, 26, 27, 28, 29] (by decide +kernel) (by decide +kernel)
set_option maxRecDepth 20000 in
theorem ggL_tries_X11_bestByTrying_p2 : GoodIn wsL_tries wsX11_bestByTrying_r2 := goodIn_r _ [30, 31, 32, 33, 34, 35, 36, 37, 38, 39, 40, 41, 42, 43, 44, 45, 46, 47, 48, 49, 50, 51, 52, 53] (by decide +kernel) (by decide +kernel)
set_option maxRecDepth 20000 in
theorem ggL_tries_X11_bestByTrying_p3 : GoodIn wsL_tries wsX11_bestByTrying_r3 := goodIn_r _ [54, 55, 56, 57, 58, 59, 60, 61, 62, 63, 64, 65, 66, 67, 68, 69, 70, 71, 72, 73, 74, 75, 76, 77] (by decide +kernel) (by decide +kernel)
set_option maxRecDepth 20000 in
theorem ggL_tries_X11_bestByTrying_p4 : GoodIn wsL_tries wsX11_bestByTrying_r4 := goodIn_r _ [78, 79, 80, 81, 82, 83, 84, 85, 86, 87, 88, 89, 90, 91, 92, 93, 94, 95, 96, 97, 98, 99, 100, 101] (by decide +kernel) (by decide +kernel)
set_option maxRecDepth 20000 in
theorem ggL_tries_X11_bestByTrying_p5 : GoodIn wsL_tries wsX11_bestByTrying_r5 := goodIn_r _ [102, 103, 104, 105, 106, 107, 108, 109, 110, 111, 112, 113, 114, 115, 116, 117, 118, 119, 120, 121, 122, 123, 124, 125] (by decide +kernel) (by decide +kernel)
set_option maxRecDepth 20000 in
theorem ggL_tries_X11_bestByTrying_p6 : GoodIn wsL_tries wsX11_bestByTrying_r6 := goodIn_r _ [126, 127, 128, 129, 130, 131, 132, 133, 134, 135, 136, 137, 138, 139, 140, 141, 142, 143, 144, 145, 146, 147, 148, 149] (by decide +kernel) (by decide +kernel)
set_option maxRecDepth 20000 in
theorem ggL_tries_X11_bestByTrying_p7 : GoodIn wsL_tries wsX11_bestByTrying_r7 := goodIn_r _ [150, 151, 152, 153, 154, 155, 156, 157, 158, 159, 160, 161, 162, 163, 164, 165, 166, 167, 168, 169, 170, 171, 172, 173] (by decide +kernel) (by decide +kernel)
set_option maxRecDepth 20000 in
theorem ggL_tries_X11_bestByTrying_p8 : GoodIn wsL_tries wsX11_bestByTrying_r8 := goodIn_r _ [174, 175, 176, 177, 178, 179, 180, 181, 182, 183, 184, 185, 186, 187, 188, 189, 190, 191, 192, 193, 194, 195, 196, 197] (by decide +kernel) (by decide +kernel)
set_option maxRecDepth 20000 in
theorem ggL_tries_X11_bestByTrying_p9 : GoodIn wsL_tries wsX11_bestByTrying_r9 := goodIn_r _ [198, 199, 200, 201, 202, 203, 204, 205, 206, 207, 208, 209, 210, 211, 212, 213, 214, 215, 216, 217, 218, 219, 220, 221] (by decide +kernel) (by decide +kernel)
set_option maxRecDepth 20000 in
theorem ggL_tries_X11_bestByTrying_p10 : GoodIn wsL_tries wsX11_bestByTrying_r10 := goodIn_r _ [222, 223, 224, 225, 226, 227, 228, 229, 230, 231, 232, 233, 234, 235, 236, 237, 238, 239, 240, 241, 242, 243, 244, 245] (by decide +kernel) (by decide +kernel)
set_option maxRecDepth 20000 in
theorem ggL_tries_X11_bestByTrying_p11 : GoodIn wsL_tries wsX11_bestByTrying_r11 := goodIn_r _ [246, 247, 248, 249, 250, 251, 252, 253, 254, 255, 256, 257, 258, 259, 260, 261, 262, 263, 264, 265, 266, 267, 268, 269] (by decide +kernel) (by decide +kernel)
set_option maxRecDepth 20000 in
theorem ggL_tries_X11_bestByTrying_p12 : GoodIn wsL_tries wsX11_bestByTrying_r12 := goodIn_r _ [270, 271, 272, 273, 274, 275, 276, 277, 278, 279, 280, 281, 282, 283, 284, 285, 286, 287, 288, 289, 290, 291, 292, 293] (by decide +kernel) (by decide +kernel)
set_option maxRecDepth 20000 in
theorem ggL_tries_X11_bestByTrying_p13 : GoodIn wsL_tries wsX11_bestByTrying_r13 := goodIn_r _ [294, 295, 296, 297, 298, 299, 300, 301, 302, 303, 304, 305, 306] (by decide +kernel) (by decide +kernel)
set_option maxRecDepth 20000 in
theorem ggL_tries_X11_bestByTrying_p14 : GoodIn wsL_tries wsX110 := goodIn_r _ [307, 308, 309, 310, 311, 312, 313] (by decide +kernel) (by decide +kernel)
set_option maxRecDepth 20000 in
theorem ggL_tries_X11_bestByTrying_p15 : GoodIn wsL_tries wsX00 := goodIn_r _ [314, 315, 316, 317, 318] (by decide +kernel) (by decide +kernel)
set_option maxRecDepth 20000 in
theorem ggL_tries_X11_bestByTrying_p16 : GoodIn wsL_tries wsX80 := goodIn_r _ [319, 320, 321, 322, 323, 324, 325, 326, 327, 328, 329, 330] (by decide +kernel) (by decide +kernel)
set_option maxRecDepth 20000 in
theorem ggL_tries_X11_bestByTrying_p17 : GoodIn wsL_tries wsX100 := goodIn_r _ [331, 332, 333, 334, 335] (by decide +kernel) (by decide +kernel)
set_option maxRecDepth 20000 in
theorem ggL_tries_X11_bestByTrying_p18 : GoodIn wsL_tries wsX60 := goodIn_r _ [336, 337, 338, 339, 340, 341] (by decide +kernel) (by decide +kernel)
set_option maxRecDepth 20000 in
theorem ggL_tries_X11_bestByTrying_p19 : GoodIn wsL_tries wsX20 := goodIn_r _ [342, 343, 344, 345, 346, 347, 348, 349, 350] (by decide +kernel) (by decide +kernel)
set_option maxRecDepth 20000 in
theorem ggL_tries_X11_bestByTrying_p20 : GoodIn wsL_tries wsX30 := goodIn_r _ [351, 352, 353, 354] (by decide +kernel) (by decide +kernel)
set_option maxRecDepth 20000 in
theorem ggL_tries_X11_bestByTrying_p21 : GoodIn wsL_tries wsX70 := goodIn_r _ [355, 356, 357, 358] (by decide +kernel) (by decide +kernel)
set_option maxRecDepth 20000 in
theorem ggL_tries_X11_bestByTrying_p22 : GoodIn wsL_tries wsX90 := goodIn_r _ [359, 360, 361, 362] (by decide +kernel) (by decide +kernel)
set_option maxRecDepth 20000 in
theorem ggL_tries_X11_bestByTrying_p23 : GoodIn wsL_tries wsX10 := goodIn_r _ [363, 364, 365, 366] (by decide +kernel) (by decide +kernel)
set_option maxRecDepth 20000 in
theorem ggL_tries_X11_bestByTrying : GoodIn wsL_tries wsX11_bestByTrying := goodIn_ca (goodIn_ca (goodIn_ca (goodIn_app ggL_tries_X11_bestByTrying_p0 (goodIn_app (goodIn_app (goodIn_app (goodIn_app (goodIn_app (goodIn_app (goodIn_app (goodIn_app (goodIn_app (goodIn_app (goodIn_app ggL_tries_X11_bestByTrying_p1 (goodIn_app ggL_tries_X11_bestByTrying_p2 (goodIn_app ggL_tries_X11_bestByTrying_p3 (goodIn_app ggL_tries_X11_bestByTrying_p4 (goodIn_app ggL_tries_X11_bestByTrying_p5 (goodIn_app ggL_tries_X11_bestByTrying_p6 (goodIn_app ggL_tries_X11_bestByTrying_p7 (goodIn_app ggL_tries_X11_bestByTrying_p8 (goodIn_app ggL_tries_X11_bestByTrying_p9 (goodIn_app ggL_tries_X11_bestByTrying_p10 (goodIn_app ggL_tries_X11_bestByTrying_p11 (goodIn_app ggL_tries_X11_bestByTrying_p12 ggL_tries_X11_bestByTrying_p13)))))))))))) ggL_tries_X11_bestByTrying_p14) ggL_tries_X11_bestByTrying_p15) ggL_tries_X11_bestByTrying_p16) ggL_tries_X11_bestByTrying_p17) ggL_tries_X11_bestByTrying_p18) ggL_tries_X11_bestByTrying_p19) ggL_tries_X11_bestByTrying_p20) ggL_tries_X11_bestByTrying_p21) ggL_tries_X11_bestByTrying_p22) ggL_tries_X11_bestByTrying_p23)) (goodIn_sub (fun _ h => List.mem_cons_of_mem _ (List.mem_append_left _ (List.mem_append_left _ (List.mem_append_right _ h)))) (by decide +kernel))) (goodIn_sub (fun _ h => List.mem_cons_of_mem _ (List.mem_append_left _ (List.mem_append_right _ h))) (by decide +kernel))) (goodIn_sub (fun _ h => List.mem_cons_of_mem _ (List.mem_append_right _ h)) (by decide +kernel))
set_option maxRecDepth 20000 in
theorem gL_tries_X11_bestByTrying : GoodIn wsL_tries (wsV RL 58 RX11 yX11_bestByTrying wsX11_bestByTrying) := goodIn_app (goodIn_of _ (by decide +kernel)) ggL_tries_X11_bestByTrying
theorem dL_tries_0 : decode cL_tries 0 = .ok (.aload_n 0, 1) := by decide +kernel
theorem dL_tries_1 : decode cL_tries 1 = .ok (.invokevirtual 58, 3) := by decide +kernel
theorem dL_tries_4 : decode cL_tries 4 = .ok (.ireturn, 1) := by decide +kernel
theorem dL_tries_5 : decode cL_tries 5 = .ok (.astore_n 1, 1) := by decide +kernel
theorem dL_tries_6 : decode cL_tries 6 = .ok (.sipush (-1001), 3) := by decide +kernel
theorem dL_tries_9 : decode cL_tries 9 = .ok (.ireturn, 1) := by decide +kernel
set_option maxRecDepth 20000 in
theorem ggL_sell_X11_sell_p0 : GoodIn wsL_sell [.code yX11_sell cX11_sell 4 (some .int)] := goodIn_r _ [6] (by decide +kernel) (by decide +kernel)
set_option maxRecDepth 20000 in
theorem ggL_sell_X11_sell_p1 : GoodIn wsL_sell wsX11_sell_r1 := goodIn_r _ [7, 8, 9, 10, 11, 12, 13, 14, 15, 16, 17, 18, 19, 20, 21, 22, 23, 24, 5, 25, 26, 27, 28, 29] (by decide +kernel) (by decide +kernel)
set_option maxRecDepth 20000 in
theorem ggL_sell_X11_sell_p2 : GoodIn wsL_sell wsX11_sell_r2 := goodIn_r _ [30, 31, 32, 33, 34, 35, 36, 37, 38, 39, 40, 41, 42, 43, 44, 45, 46, 47, 48, 49, 50, 51, 52, 53] (by decide +kernel) (by decide +kernel)
set_option maxRecDepth 20000 in
theorem ggL_sell_X11_sell_p3 : GoodIn wsL_sell wsX11_sell_r3 := goodIn_r _ [54, 55, 56, 57, 58, 59, 60, 61, 62, 63, 64, 65, 66, 67, 68, 69, 70, 71, 72, 73, 74, 75, 76, 77] (by decide +kernel) (by decide +kernel)
set_option maxRecDepth 20000 in
theorem ggL_sell_X11_sell_p4 : GoodIn wsL_sell wsX11_sell_r4 := goodIn_r _ [78, 79, 80, 81, 82, 83, 84, 85, 86, 87, 88, 89, 90, 91, 92, 93, 94, 95, 96, 97, 98, 99, 100, 101] (by decide +kernel) (by decide +kernel)
set_option maxRecDepth 20000 in
theorem ggL_sell_X11_sell_p5 : GoodIn wsL_sell wsX11_sell_r5 := goodIn_r _ [102, 103, 104, 105, 106, 107, 108, 109, 110, 111, 112, 113, 114, 115, 116, 117, 118, 119, 120, 121, 122, 123, 124, 125] (by decide +kernel) (by decide +kernel)
set_option maxRecDepth 20000 in
theorem ggL_sell_X11_sell_p6 : GoodIn wsL_sell wsX11_sell_r6 := goodIn_r _ [126, 127, 128, 129, 130, 131, 132, 133, 134, 135, 136, 137, 138, 139, 140, 141, 142, 143, 144, 145, 146, 147, 148, 149] (by decide +kernel) (by decide +kernel)
set_option maxRecDepth 20000 in
theorem ggL_sell_X11_sell_p7 : GoodIn wsL_sell wsX11_sell_r7 := goodIn_r _ [150, 151, 152, 153, 154, 155, 156, 157, 158, 159, 160, 161, 162, 163, 164, 165, 166, 167, 168, 169, 170, 171, 172, 173] (by decide +kernel) (by decide +kernel)
set_option maxRecDepth 20000 in
theorem ggL_sell_X11_sell_p8 : GoodIn wsL_sell wsX11_sell_r8 := goodIn_r _ [174, 175, 176, 177, 178, 179, 180, 181, 182, 183, 184, 185, 186, 187, 188, 189, 190, 191, 192, 193, 194, 195, 196, 197] (by decide +kernel) (by decide +kernel)
set_option maxRecDepth 20000 in
theorem ggL_sell_X11_sell_p9 : GoodIn wsL_sell wsX11_sell_r9 := goodIn_r _ [198, 199, 200, 201, 202, 203, 204, 205, 206, 207, 208, 209, 210, 211, 212, 213, 214, 215, 216, 217, 218, 219, 220, 221] (by decide +kernel) (by decide +kernel)
set_option maxRecDepth 20000 in
theorem ggL_sell_X11_sell_p10 : GoodIn wsL_sell wsX11_sell_r10 := goodIn_r _ [222, 223, 224, 225, 226, 227, 228, 229, 230, 231, 232, 233, 234, 235, 236, 237, 238, 239, 240, 241, 242, 243, 244, 245] (by decide +kernel) (by decide +kernel)
set_option maxRecDepth 20000 in
theorem ggL_sell_X11_sell_p11 : GoodIn wsL_sell wsX11_sell_r11 := goodIn_r _ [246, 247, 248, 249, 250, 251, 252, 253, 254, 255, 256, 257, 258, 259, 260, 261, 262, 263, 264, 265, 266, 267, 268, 269] (by decide +kernel) (by decide +kernel)
set_option maxRecDepth 20000 in
theorem ggL_sell_X11_sell_p12 : GoodIn wsL_sell wsX11_sell_r12 := goodIn_r _ [270, 271, 272, 273, 274, 275, 276, 277, 278, 279, 280, 281, 282, 283, 284, 285, 286, 287, 288, 289, 290, 291, 292, 293] (by decide +kernel) (by decide +kernel)
set_option maxRecDepth 20000 in
theorem ggL_sell_X11_sell_p13 : GoodIn wsL_sell wsX11_sell_r13 := goodIn_r _ [294, 295, 296, 297, 298, 299, 300, 301, 302, 303, 304, 305, 306, 307, 308, 309, 310, 311, 312, 313, 314, 315, 316, 317] (by decide +kernel) (by decide +kernel)
set_option maxRecDepth 20000 in
theorem ggL_sell_X11_sell_p14 : GoodIn wsL_sell wsX11_sell_r14 := goodIn_r _ [318, 319, 320, 321, 322, 323, 324, 325, 326, 327, 328, 329, 330, 331, 332, 333, 334, 335, 336, 337, 338, 339, 340] (by decide +kernel) (by decide +kernel)
set_option maxRecDepth 20000 in
theorem ggL_sell_X11_sell_p15 : GoodIn wsL_sell wsX110 := goodIn_r _ [341, 342, 343, 344, 345, 346, 347] (by decide +kernel) (by decide +kernel)
set_option maxRecDepth 20000 in
theorem ggL_sell_X11_sell_p16 : GoodIn wsL_sell wsX00 := goodIn_r _ [348, 349, 350, 351, 352] (by decide +kernel) (by decide +kernel)
set_option maxRecDepth 20000 in
theorem ggL_sell_X11_sell_p17 : GoodIn wsL_sell wsX80 := goodIn_r _ [353, 354, 355, 356, 357, 358, 359, 360, 361, 362, 363, 364] (by decide +kernel) (by decide +kernel)
set_option maxRecDepth 20000 in
theorem ggL_sell_X11_sell_p18 : GoodIn wsL_sell wsX100 := goodIn_r _ [365, 366, 367, 368, 369] (by decide +kernel) (by decide +kernel)
set_option maxRecDepth 20000 in
theorem ggL_sell_X11_sell_p19 : GoodIn wsL_sell wsX60 := goodIn_r _ [370, 371, 372, 373, 374, 375] (by decide +kernel) (by decide +kernel)
set_option maxRecDepth 20000 in
theorem ggL_sell_X11_sell_p20 : GoodIn wsL_sell wsX20 := goodIn_r _ [376, 377, 378, 379, 380, 381, 382, 383, 384] (by decide +kernel) (by decide +kernel)
set_option maxRecDepth 20000 in
theorem ggL_sell_X11_sell_p21 : GoodIn wsL_sell wsX30 := goodIn_r _ [385, 386, 387, 388] (by decide +kernel) (by decide +kernel)
set_option maxRecDepth 20000 in
theorem ggL_sell_X11_sell_p22 : GoodIn wsL_sell wsX70 := goodIn_r _ [389, 390, 391, 392] (by decide +kernel) (by decide +kernel)
set_option maxRecDepth 20000 in
theorem ggL_sell_X11_sell_p23 : GoodIn wsL_sell wsX90 := goodIn_r _ [393, 394, 395, 396] (by decide +kernel) (by decide +kernel)
set_option maxRecDepth 20000 in
theorem ggL_sell_X11_sell_p24 : GoodIn wsL_sell wsX10 := goodIn_r _ [397, 398, 399, 400] (by decide +kernel) (by decide +kernel)
set_option maxRecDepth 20000 in
theorem ggL_sell_X11_sell_p25 : GoodIn wsL_sell wsX40 := goodIn_r _ [401, 402, 403, 404, 405, 406, 407, 408, 409] (by decide +kernel) (by decide +kernel)
set_option maxRecDepth 20000 in
theorem ggL_sell_X11_sell : GoodIn wsL_sell wsX11_sell := goodIn_ca (goodIn_ca (goodIn_ca (goodIn_app ggL_sell_X11_sell_p0 (goodIn_app (goodIn_app (goodIn_app (goodIn_app (goodIn_app (goodIn_app (goodIn_app (goodIn_app (goodIn_app (goodIn_app (goodIn_app (goodIn_app ggL_sell_X11_sell_p1 (goodIn_app ggL_sell_X11_sell_p2 (goodIn_app ggL_sell_X11_sell_p3 (goodIn_app ggL_sell_X11_sell_p4 (goodIn_app ggL_sell_X11_sell_p5 (goodIn_app ggL_sell_X11_sell_p6 (goodIn_app ggL_sell_X11_sell_p7 (goodIn_app ggL_sell_X11_sell_p8 (goodIn_app ggL_sell_X11_sell_p9 (goodIn_app ggL_sell_X11_sell_p10 (goodIn_app ggL_sell_X11_sell_p11 (goodIn_app ggL_sell_X11_sell_p12 (goodIn_app ggL_sell_X11_sell_p13 ggL_sell_X11_sell_p14))))))))))))) ggL_sell_X11_sell_p15) ggL_sell_X11_sell_p16) ggL_sell_X11_sell_p17) ggL_sell_X11_sell_p18) ggL_sell_X11_sell_p19) ggL_sell_X11_sell_p20) ggL_sell_X11_sell_p21) ggL_sell_X11_sell_p22) ggL_sell_X11_sell_p23) ggL_sell_X11_sell_p24) ggL_sell_X11_sell_p25)) (goodIn_sub (fun _ h => List.mem_cons_of_mem _ (List.mem_append_left _ (List.mem_append_left _ (List.mem_append_right _ h)))) (by decide +kernel))) (goodIn_sub (fun _ h => List.mem_cons_of_mem _ (List.mem_append_left _ (List.mem_append_right _ h))) (by decide +kernel))) (goodIn_sub (fun _ h => List.mem_cons_of_mem _ (List.mem_append_right _ h)) (by decide +kernel))
set_option maxRecDepth 20000 in
theorem gL_sell_X11_sell : GoodIn wsL_sell (wsV RL 64 RX11 yX11_sell wsX11_sell) := goodIn_app (goodIn_of _ (by decide +kernel)) ggL_sell_X11_sell
theorem dL_sell_0 : decode cL_sell 0 = .ok (.aload_n 0, 1) := by decide +kernel
theorem dL_sell_1 : decode cL_sell 1 = .ok (.invokevirtual 64, 3) := by decide +kernel
theorem dL_sell_4 : decode cL_sell 4 = .ok (.ireturn, 1) := by decide +kernel
theorem dL_sell_5 : decode cL_sell 5 = .ok (.astore_n 1, 1) := by decide +kernel
theorem dL_sell_6 : decode cL_sell 6 = .ok (.sipush (-1001), 3) := by decide +kernel
theorem dL_sell_9 : decode cL_sell 9 = .ok (.ireturn, 1) := by decide +kernel
set_option maxRecDepth 20000 in
theorem ggL_back_X11_giveBack : GoodIn wsL_back wsX11_giveBack := goodIn_ca (goodIn_ca (goodIn_ca (goodIn_r _ [7, 8, 9, 10, 11, 12, 13, 14, 15, 16, 17, 18, 19, 20, 21, 22, 23, 24, 25, 26, 27, 28, 29, 30, 6, 31, 32, 33, 34, 35, 36, 37, 38, 39, 40, 41, 42, 43, 44, 45, 46, 47] (by decide +kernel) (by decide +kernel)) (goodIn_sub (fun _ h => List.mem_cons_of_mem _ (List.mem_append_left _ (List.mem_append_left _ (List.mem_append_right _ h)))) (by decide +kernel))) (goodIn_sub (fun _ h => List.mem_cons_of_mem _ (List.mem_append_left _ (List.mem_append_right _ h))) (by decide +kernel))) (goodIn_sub (fun _ h => List.mem_cons_of_mem _ (List.mem_append_right _ h)) (by decide +kernel))
set_option maxRecDepth 20000 in
theorem gL_back_X11_giveBack : GoodIn wsL_back (wsV RL 67 RX11 yX11_giveBack wsX11_giveBack) := goodIn_app (goodIn_of _ (by decide +kernel)) ggL_back_X11_giveBack
theorem dL_back_0 : decode cL_back 0 = .ok (.aload_n 0, 1) := by decide +kernel
theorem dL_back_1 : decode cL_back 1 = .ok (.iload_n 1, 1) := by decide +kernel
theorem dL_back_2 : decode cL_back 2 = .ok (.invokevirtual 67, 3) := by decide +kernel
theorem dL_back_5 : decode cL_back 5 = .ok (.ireturn, 1) := by decide +kernel
theorem dL_back_6 : decode cL_back 6 = .ok (.astore_n 2, 1) := by decide +kernel
theorem dL_back_7 : decode cL_back 7 = .ok (.sipush (-1001), 3) := by decide +kernel
theorem dL_back_10 : decode cL_back 10 = .ok (.ireturn, 1) := by decide +kernel
theorem dL_back_11 : decode cL_back 11 = .ok (.astore_n 2, 1) := by decide +kernel
theorem dL_back_12 : decode cL_back 12 = .ok (.sipush (-1002), 3) := by decide +kernel
theorem dL_back_15 : decode cL_back 15 = .ok (.ireturn, 1) := by decide +kernel
set_option maxRecDepth 20000 in
theorem ggL_buyer_X11_soldTo : GoodIn wsL_buyer wsX11_soldTo := goodIn_ca (goodIn_ca (goodIn_r _ [6, 7, 8, 9, 10, 11, 12, 13, 14, 15, 16, 17, 18, 19, 20, 21, 5, 22, 23, 24, 25, 26, 27, 28, 29, 30, 31, 32, 33, 34, 35, 36, 37, 38] (by decide +kernel) (by decide +kernel)) (goodIn_sub (fun _ h => List.mem_cons_of_mem _ (List.mem_append_left _ (List.mem_append_right _ h))) (by decide +kernel))) (goodIn_sub (fun _ h => List.mem_cons_of_mem _ (List.mem_append_right _ h)) (by decide +kernel))
set_option maxRecDepth 20000 in
theorem gL_buyer_X11_soldTo : GoodIn wsL_buyer (wsV RL 70 RX11 yX11_soldTo wsX11_soldTo) := goodIn_app (goodIn_of _ (by decide +kernel)) ggL_buyer_X11_soldTo
theorem dL_buyer_0 : decode cL_buyer 0 = .ok (.aload_n 0, 1) := by decide +kernel
theorem dL_buyer_1 : decode cL_buyer 1 = .ok (.iload_n 1, 1) := by decide +kernel
theorem dL_buyer_2 : decode cL_buyer 2 = .ok (.invokevirtual 70, 3) := by decide +kernel
theorem dL_buyer_5 : decode cL_buyer 5 = .ok (.ireturn, 1) := by decide +kernel
theorem dL_buyer_6 : decode cL_buyer 6 = .ok (.astore_n 2, 1) := by decide +kernel
theorem dL_buyer_7 : decode cL_buyer 7 = .ok (.sipush (-1001), 3) := by decide +kernel
theorem dL_buyer_10 : decode cL_buyer 10 = .ok (.ireturn, 1) := by decide +kernel
set_option maxRecDepth 20000 in
theorem ggL_share_X11_discountShare : GoodIn wsL_share wsX11_discountShare := goodIn_ca (goodIn_r _ [7, 8, 9, 10, 11, 12, 13, 14, 15, 16, 17, 18, 19, 20, 21, 22, 23, 24, 25, 26, 27, 28, 29, 30, 31, 32, 33, 34, 35, 36, 37] (by decide +kernel) (by decide +kernel)) (goodIn_sub (fun _ h => List.mem_cons_of_mem _ (List.mem_append_right _ h)) (by decide +kernel))
set_option maxRecDepth 20000 in
theorem gL_share_X11_discountShare : GoodIn wsL_share (wsV RL 73 RX11 yX11_discountShare wsX11_discountShare) := goodIn_app (goodIn_of _ (by decide +kernel)) ggL_share_X11_discountShare
theorem dL_share_0 : decode cL_share 0 = .ok (.aload_n 0, 1) := by decide +kernel
theorem dL_share_1 : decode cL_share 1 = .ok (.invokevirtual 73, 3) := by decide +kernel
theorem dL_share_4 : decode cL_share 4 = .ok (.freturn, 1) := by decide +kernel
theorem dL_share_5 : decode cL_share 5 = .ok (.astore_n 1, 1) := by decide +kernel
theorem dL_share_6 : decode cL_share 6 = .ok (.ldc 79, 2) := by decide +kernel
theorem dL_share_8 : decode cL_share 8 = .ok (.freturn, 1) := by decide +kernel
set_option maxRecDepth 20000 in
theorem ggL_mean_X11_meanNetPrice : GoodIn wsL_mean wsX11_meanNetPrice := goodIn_ca (goodIn_r _ [7, 8, 9, 10, 11, 12, 13, 14, 15, 16, 17, 18, 19, 20, 21, 22, 23, 24, 25, 26, 27, 28, 29, 30, 31, 32, 33, 34, 35, 36, 37] (by decide +kernel) (by decide +kernel)) (goodIn_sub (fun _ h => List.mem_cons_of_mem _ (List.mem_append_right _ h)) (by decide +kernel))
set_option maxRecDepth 20000 in
theorem gL_mean_X11_meanNetPrice : GoodIn wsL_mean (wsV RL 80 RX11 yX11_meanNetPrice wsX11_meanNetPrice) := goodIn_app (goodIn_of _ (by decide +kernel)) ggL_mean_X11_meanNetPrice
theorem dL_mean_0 : decode cL_mean 0 = .ok (.aload_n 0, 1) := by decide +kernel
theorem dL_mean_1 : decode cL_mean 1 = .ok (.invokevirtual 80, 3) := by decide +kernel
theorem dL_mean_4 : decode cL_mean 4 = .ok (.dreturn, 1) := by decide +kernel
theorem dL_mean_5 : decode cL_mean 5 = .ok (.astore_n 1, 1) := by decide +kernel
theorem dL_mean_6 : decode cL_mean 6 = .ok (.ldc2_w 84, 3) := by decide +kernel
theorem dL_mean_9 : decode cL_mean 9 = .ok (.dreturn, 1) := by decide +kernel
set_option maxRecDepth 20000 in
theorem ggL_sum_X11_items : GoodIn wsL_sum wsX11_items := goodIn_r _ [11, 12, 13, 14, 15, 16, 17, 18, 420, 421, 422, 423, 424, 425, 426, 427, 428, 429, 430, 431] (by decide +kernel) (by decide +kernel)
set_option maxRecDepth 20000 in
theorem gL_sum_X11_items : GoodIn wsL_sum (wsV RL 86 RX11 yX11_items wsX11_items) := goodIn_app (goodIn_of _ (by decide +kernel)) ggL_sum_X11_items
set_option maxRecDepth 20000 in
theorem ggL_sum_X11_sum : GoodIn wsL_sum wsX11_sum := goodIn_ca (goodIn_r _ [22, 12, 23, 24, 25, 16, 26, 18, 27, 10, 28, 29, 30, 31, 32, 33, 34, 35, 36, 37, 420, 421, 422, 423, 424, 425, 426, 427, 428, 429, 430, 431] (by decide +kernel) (by decide +kernel)) (goodIn_sub (fun _ h => List.mem_cons_of_mem _ (List.mem_append_left _ (List.mem_append_left _ (List.mem_append_left _ (List.mem_append_right _ h))))) (by decide +kernel))
set_option maxRecDepth 20000 in
theorem gL_sum_X11_sum : GoodIn wsL_sum (wsV RL 91 RX11 yX11_sum wsX11_sum) := goodIn_app (goodIn_of _ (by decide +kernel)) ggL_sum_X11_sum
set_option maxRecDepth 20000 in
theorem ggL_sum_X11_offers : GoodIn wsL_sum wsX11_offers := goodIn_r _ [41, 42, 43, 44, 45, 46, 47, 48, 420, 421, 422, 423, 424, 425, 426, 432, 433, 434, 435, 436, 437] (by decide +kernel) (by decide +kernel)
set_option maxRecDepth 20000 in
theorem gL_sum_X11_offers : GoodIn wsL_sum (wsV RL 96 RX11 yX11_offers wsX11_offers) := goodIn_app (goodIn_of _ (by decide +kernel)) ggL_sum_X11_offers
set_option maxRecDepth 20000 in
theorem ggL_sum_X11_turnover : GoodIn wsL_sum wsX11_turnover := goodIn_r _ [52, 53, 54, 55, 56, 57, 58, 59, 60, 420, 421, 422, 423, 424, 425, 426, 438, 439, 440, 441, 442, 443, 444, 445, 446] (by decide +kernel) (by decide +kernel)
set_option maxRecDepth 20000 in
theorem gL_sum_X11_turnover : GoodIn wsL_sum (wsV RL 101 RX11 yX11_turnover wsX11_turnover) := goodIn_app (goodIn_of _ (by decide +kernel)) ggL_sum_X11_turnover
set_option maxRecDepth 20000 in
theorem ggL_sum_X11_usesInAll : GoodIn wsL_sum wsX11_usesInAll := goodIn_r _ [64, 53, 65, 66, 67, 57, 68, 69, 420, 421, 422, 423, 424, 425, 426, 438, 439, 440, 441, 442, 443, 444, 445, 446] (by decide +kernel) (by decide +kernel)
set_option maxRecDepth 20000 in
theorem gL_sum_X11_usesInAll : GoodIn wsL_sum (wsV RL 107 RX11 yX11_usesInAll wsX11_usesInAll) := goodIn_app (goodIn_of _ (by decide +kernel)) ggL_sum_X11_usesInAll
set_option maxRecDepth 20000 in
theorem ggL_sum_X11_bestDiscount_p0 : GoodIn wsL_sum [.code yX11_bestDiscount cX11_bestDiscount 1 (some .int)] := goodIn_r _ [73] (by decide +kernel) (by decide +kernel)
set_option maxRecDepth 20000 in
theorem ggL_sum_X11_bestDiscount_p1 : GoodIn wsL_sum wsX11_bestDiscount_r1 := goodIn_r _ [74, 75, 76, 77, 10, 78, 79, 80, 81, 82, 83, 84, 85, 86, 87, 88, 89, 90, 91, 92, 93, 94, 95, 96] (by decide +kernel) (by decide +kernel)
set_option maxRecDepth 20000 in
theorem ggL_sum_X11_bestDiscount_p2 : GoodIn wsL_sum wsX11_bestDiscount_r2 := goodIn_r _ [97, 98, 99, 100, 101, 14, 15, 16, 17, 18, 102, 103, 104, 44, 45, 46, 47, 48, 105, 106, 107, 108, 109, 110] (by decide +kernel) (by decide +kernel)
set_option maxRecDepth 20000 in
theorem ggL_sum_X11_bestDiscount_p3 : GoodIn wsL_sum wsX11_bestDiscount_r3 := goodIn_r _ [111, 112, 113, 114, 115, 116, 117, 118, 119, 120, 121, 122, 123, 124, 36, 37, 125, 126, 127, 128, 129, 27, 28, 130] (by decide +kernel) (by decide +kernel)
set_option maxRecDepth 20000 in
theorem ggL_sum_X11_bestDiscount_p4 : GoodIn wsL_sum wsX11_bestDiscount_r4 := goodIn_r _ [24, 25, 26, 131, 132, 133, 134, 135, 136, 137, 138, 139, 140, 141, 142, 143, 144, 145, 146, 147, 148, 149, 150, 151] (by decide +kernel) (by decide +kernel)
set_option maxRecDepth 20000 in
theorem ggL_sum_X11_bestDiscount_p5 : GoodIn wsL_sum wsX11_bestDiscount_r5 := goodIn_r _ [152, 153, 154, 155, 156, 157, 158, 159, 160, 161, 162, 163, 164, 165, 166, 167, 168, 169, 170, 171, 172, 173, 174, 34] (by decide +kernel) (by decide +kernel)
set_option maxRecDepth 20000 in
theorem ggL_sum_X11_bestDiscount_p6 : GoodIn wsL_sum wsX11_bestDiscount_r6 := goodIn_r _ [35, 175, 30, 31, 32, 33, 176, 177, 178, 179, 180, 181, 182, 183, 184, 185, 186, 187, 188, 189, 190, 191, 192, 193] (by decide +kernel) (by decide +kernel)
set_option maxRecDepth 20000 in
theorem ggL_sum_X11_bestDiscount_p7 : GoodIn wsL_sum wsX11_bestDiscount_r7 := goodIn_r _ [194, 195, 196, 197, 198, 199, 200, 201, 202, 203, 204, 205, 206, 207, 208, 209, 210, 211, 212, 213, 214, 215, 216, 217] (by decide +kernel) (by decide +kernel)
set_option maxRecDepth 20000 in
theorem ggL_sum_X11_bestDiscount_p8 : GoodIn wsL_sum wsX11_bestDiscount_r8 := goodIn_r _ [218, 219, 220, 221, 222, 223, 224, 225, 226, 227, 228, 229, 230, 231, 232, 233, 234, 235, 236, 237, 238, 239, 240, 241] (by decide +kernel) (by decide +kernel)
set_option maxRecDepth 20000 in
theorem ggL_sum_X11_bestDiscount_p9 : GoodIn wsL_sum wsX11_bestDiscount_r9 := goodIn_r _ [242, 243, 244, 245, 246, 247, 248, 249, 250, 251, 252, 253, 254, 255, 256, 257, 258, 259, 260, 261, 262, 263, 264, 265] (by decide +kernel) (by decide +kernel)
set_option maxRecDepth 20000 in
theorem ggL_sum_X11_bestDiscount_p10 : GoodIn wsL_sum wsX11_bestDiscount_r10 := goodIn_r _ [266, 267, 268, 269, 270, 271, 272, 273, 274, 275, 276, 277, 278, 279, 280, 281, 282, 283, 284, 285, 286, 287, 288, 289] (by decide +kernel) (by decide +kernel)
set_option maxRecDepth 20000 in
theorem ggL_sum_X11_bestDiscount_p11 : GoodIn wsL_sum wsX11_bestDiscount_r11 := goodIn_r _ [290, 291, 292, 293, 294, 295, 296, 297, 298, 299, 300, 301, 302, 303, 304, 305, 306, 307, 308, 309, 310, 311, 312, 313] (by decide +kernel) (by decide +kernel)
set_option maxRecDepth 20000 in
theorem ggL_sum_X11_bestDiscount_p12 : GoodIn wsL_sum wsX11_bestDiscount_r12 := goodIn_r _ [314, 315, 316, 317, 318, 319, 320, 321, 322, 323, 324, 325, 326, 327, 328, 329, 330, 331, 332, 333, 334, 335, 336, 337] (by decide +kernel) (by decide +kernel)
set_option maxRecDepth 20000 in
theorem ggL_sum_X11_bestDiscount_p13 : GoodIn wsL_sum wsX11_bestDiscount_r13 := goodIn_r _ [338] (by decide +kernel) (by decide +kernel)
set_option maxRecDepth 20000 in
theorem ggL_sum_X11_bestDiscount_p14 : GoodIn wsL_sum wsX110 := goodIn_r _ [420, 421, 422, 423, 424, 425, 426] (by decide +kernel) (by decide +kernel)
set_option maxRecDepth 20000 in
theorem ggL_sum_X11_bestDiscount_p15 : GoodIn wsL_sum wsX80 := goodIn_r _ [447, 448, 449, 450, 451, 452, 453, 454, 455, 456, 457, 458] (by decide +kernel) (by decide +kernel)
set_option maxRecDepth 20000 in
theorem ggL_sum_X11_bestDiscount_p16 : GoodIn wsL_sum wsX100 := goodIn_r _ [459, 460, 461, 462, 463] (by decide +kernel) (by decide +kernel)
set_option maxRecDepth 20000 in
theorem ggL_sum_X11_bestDiscount_p17 : GoodIn wsL_sum wsX00 := goodIn_r _ [427, 428, 429, 430, 431] (by decide +kernel) (by decide +kernel)
set_option maxRecDepth 20000 in
theorem ggL_sum_X11_bestDiscount_p18 : GoodIn wsL_sum wsX60 := goodIn_r _ [432, 433, 434, 435, 436, 437] (by decide +kernel) (by decide +kernel)
set_option maxRecDepth 20000 in
theorem ggL_sum_X11_bestDiscount_p19 : GoodIn wsL_sum wsX20 := goodIn_r _ [464, 465, 466, 467, 468, 469, 470, 471, 472] (by decide +kernel) (by decide +kernel)
set_option maxRecDepth 20000 in
theorem ggL_sum_X11_bestDiscount_p20 : GoodIn wsL_sum wsX30 := goodIn_r _ [473, 474, 475, 476] (by decide +kernel) (by decide +kernel)
set_option maxRecDepth 20000 in
theorem ggL_sum_X11_bestDiscount_p21 : GoodIn wsL_sum wsX70 := goodIn_r _ [477, 478, 479, 480] (by decide +kernel) (by decide +kernel)
set_option maxRecDepth 20000 in
theorem ggL_sum_X11_bestDiscount_p22 : GoodIn wsL_sum wsX90 := goodIn_r _ [481, 482, 483, 484] (by decide +kernel) (by decide +kernel)
set_option maxRecDepth 20000 in
theorem ggL_sum_X11_bestDiscount_p23 : GoodIn wsL_sum wsX10 := goodIn_r _ [485, 486, 487, 488] (by decide +kernel) (by decide +kernel)
set_option maxRecDepth 20000 in
theorem ggL_sum_X11_bestDiscount : GoodIn wsL_sum wsX11_bestDiscount := goodIn_ca (goodIn_ca (goodIn_app ggL_sum_X11_bestDiscount_p0 (goodIn_app (goodIn_app (goodIn_app (goodIn_app (goodIn_app (goodIn_app (goodIn_app (goodIn_app (goodIn_app (goodIn_app (goodIn_app ggL_sum_X11_bestDiscount_p1 (goodIn_app ggL_sum_X11_bestDiscount_p2 (goodIn_app ggL_sum_X11_bestDiscount_p3 (goodIn_app ggL_sum_X11_bestDiscount_p4 (goodIn_app ggL_sum_X11_bestDiscount_p5 (goodIn_app ggL_sum_X11_bestDiscount_p6 (goodIn_app ggL_sum_X11_bestDiscount_p7 (goodIn_app ggL_sum_X11_bestDiscount_p8 (goodIn_app ggL_sum_X11_bestDiscount_p9 (goodIn_app ggL_sum_X11_bestDiscount_p10 (goodIn_app ggL_sum_X11_bestDiscount_p11 (goodIn_app ggL_sum_X11_bestDiscount_p12 ggL_sum_X11_bestDiscount_p13)))))))))))) ggL_sum_X11_bestDiscount_p14) ggL_sum_X11_bestDiscount_p15) ggL_sum_X11_bestDiscount_p16) ggL_sum_X11_bestDiscount_p17) ggL_sum_X11_bestDiscount_p18) ggL_sum_X11_bestDiscount_p19) ggL_sum_X11_bestDiscount_p20) ggL_sum_X11_bestDiscount_p21) ggL_sum_X11_bestDiscount_p22) ggL_sum_X11_bestDiscount_p23)) (goodIn_sub (fun _ h => List.mem_cons_of_mem _ (List.mem_append_left _ (List.mem_append_left _ (List.mem_append_left _ (List.mem_append_right _ h))))) (by decide +kernel))) (goodIn_sub (fun _ h => List.mem_cons_of_mem _ (List.mem_append_left _ (List.mem_append_left _ (List.mem_append_right _ h)))) (by decide +kernel))
set_option maxRecDepth 20000 in
theorem gL_sum_X11_bestDiscount : GoodIn wsL_sum (wsV RL 112 RX11 yX11_bestDiscount wsX11_bestDiscount) := goodIn_app (goodIn_of _ (by decide +kernel)) ggL_sum_X11_bestDiscount
set_option maxRecDepth 20000 in
theorem ggL_sum_L_of_p0 : GoodIn wsL_sum [.codeWith yL_of cL_of 4 (some .int) [(0, 33, 34, 50)]] := goodIn_r _ [342] (by decide +kernel) (by decide +kernel)
set_option maxRecDepth 20000 in
theorem ggL_sum_L_of_p1 : GoodIn wsL_sum wsL_of_r1 := goodIn_r _ [343, 344, 345, 346, 10, 347, 348, 349, 42, 80, 350, 351, 352, 46, 353, 48, 354, 106, 107, 108, 109, 110, 111, 112] (by decide +kernel) (by decide +kernel)
set_option maxRecDepth 20000 in
theorem ggL_sum_L_of_p2 : GoodIn wsL_sum wsL_of_r2 := goodIn_r _ [113, 114, 115, 116, 117, 118, 119, 120, 121, 122, 123, 124, 36, 37, 355, 356, 357, 358, 74, 75, 76, 77, 78, 79] (by decide +kernel) (by decide +kernel)
set_option maxRecDepth 20000 in
theorem ggL_sum_L_of_p3 : GoodIn wsL_sum wsL_of_r3 := goodIn_r _ [81, 82, 83, 84, 85, 86, 87, 88, 89, 90, 91, 92, 93, 94, 95, 96, 97, 98, 99, 100, 101, 14, 15, 16] (by decide +kernel) (by decide +kernel)
set_option maxRecDepth 20000 in
theorem ggL_sum_L_of_p4 : GoodIn wsL_sum wsL_of_r4 := goodIn_r _ [17, 18, 102, 103, 104, 44, 45, 47, 105, 125, 126, 127, 128, 129, 27, 28, 130, 24, 25, 26, 131, 132, 133, 134] (by decide +kernel) (by decide +kernel)
set_option maxRecDepth 20000 in
theorem ggL_sum_L_of_p5 : GoodIn wsL_sum wsL_of_r5 := goodIn_r _ [135, 136, 137, 138, 139, 140, 141, 142, 143, 144, 145, 146, 147, 148, 149, 150, 151, 152, 153, 154, 155, 156, 157, 158] (by decide +kernel) (by decide +kernel)
set_option maxRecDepth 20000 in
theorem ggL_sum_L_of_p6 : GoodIn wsL_sum wsL_of_r6 := goodIn_r _ [159, 160, 161, 162, 163, 164, 165, 166, 167, 168, 169, 170, 171, 172, 173, 174, 34, 35, 175, 30, 31, 32, 33, 176] (by decide +kernel) (by decide +kernel)
set_option maxRecDepth 20000 in
theorem ggL_sum_L_of_p7 : GoodIn wsL_sum wsL_of_r7 := goodIn_r _ [177, 178, 179, 180, 181, 182, 183, 184, 185, 186, 187, 188, 189, 190, 191, 192, 193, 194, 195, 196, 197, 198, 199, 200] (by decide +kernel) (by decide +kernel)
set_option maxRecDepth 20000 in
theorem ggL_sum_L_of_p8 : GoodIn wsL_sum wsL_of_r8 := goodIn_r _ [201, 202, 203, 204, 205, 206, 207, 208, 209, 210, 211, 212, 213, 214, 215, 216, 217, 218, 219, 220, 221, 222, 223, 224] (by decide +kernel) (by decide +kernel)
set_option maxRecDepth 20000 in
theorem ggL_sum_L_of_p9 : GoodIn wsL_sum wsL_of_r9 := goodIn_r _ [225, 226, 227, 228, 229, 230, 231, 232, 233, 234, 235, 236, 237, 238, 239, 240, 241, 242, 243, 244, 245, 246, 247, 248] (by decide +kernel) (by decide +kernel)
set_option maxRecDepth 20000 in
theorem ggL_sum_L_of_p10 : GoodIn wsL_sum wsL_of_r10 := goodIn_r _ [249, 250, 251, 252, 253, 254, 255, 256, 257, 258, 259, 260, 261, 262, 263, 264, 265, 266, 267, 268, 269, 270, 271, 272] (by decide +kernel) (by decide +kernel)
set_option maxRecDepth 20000 in
theorem ggL_sum_L_of_p11 : GoodIn wsL_sum wsL_of_r11 := goodIn_r _ [273, 274, 275, 276, 277, 278, 279, 280, 281, 282, 283, 284, 285, 286, 287, 288, 289, 290, 291, 292, 293, 294, 295, 296] (by decide +kernel) (by decide +kernel)
set_option maxRecDepth 20000 in
theorem ggL_sum_L_of_p12 : GoodIn wsL_sum wsL_of_r12 := goodIn_r _ [297, 298, 299, 300, 301, 302, 303, 304, 305, 306, 307, 308, 309, 310, 311, 312, 313, 314, 315, 316, 317, 318, 319, 320] (by decide +kernel) (by decide +kernel)
set_option maxRecDepth 20000 in
theorem ggL_sum_L_of_p13 : GoodIn wsL_sum wsL_of_r13 := goodIn_r _ [321, 322, 323, 324, 325, 326, 327, 328, 329, 330, 331, 332, 333, 334, 359, 360, 361, 362, 363, 364, 365, 366, 367, 368] (by decide +kernel) (by decide +kernel)
set_option maxRecDepth 20000 in
theorem ggL_sum_L_of_p14 : GoodIn wsL_sum wsL_of_r14 := goodIn_r _ [369, 370, 371, 372, 373, 374, 375] (by decide +kernel) (by decide +kernel)
set_option maxRecDepth 20000 in
theorem ggL_sum_L_of_p15 : GoodIn wsL_sum wsX110 := goodIn_r _ [420, 421, 422, 423, 424, 425, 426] (by decide +kernel) (by decide +kernel)
set_option maxRecDepth 20000 in
theorem ggL_sum_L_of_p16 : GoodIn wsL_sum wsX60 := goodIn_r _ [432, 433, 434, 435, 436, 437] (by decide +kernel) (by decide +kernel)
set_option maxRecDepth 20000 in
theorem ggL_sum_L_of_p17 : GoodIn wsL_sum wsX20 := goodIn_r _ [464, 465, 466, 467, 468, 469, 470, 471, 472] (by decide +kernel) (by decide +kernel)
set_option maxRecDepth 20000 in
theorem ggL_sum_L_of_p18 : GoodIn wsL_sum wsX30 := goodIn_r _ [473, 474, 475, 476] (by decide +kernel) (by decide +kernel)
set_option maxRecDepth 20000 in
theorem ggL_sum_L_of_p19 : GoodIn wsL_sum wsX70 := goodIn_r _ [477, 478, 479, 480] (by decide +kernel) (by decide +kernel)
set_option maxRecDepth 20000 in
theorem ggL_sum_L_of_p20 : GoodIn wsL_sum wsX90 := goodIn_r _ [481, 482, 483, 484] (by decide +kernel) (by decide +kernel)
set_option maxRecDepth 20000 in
theorem ggL_sum_L_of_p21 : GoodIn wsL_sum wsX80 := goodIn_r _ [447, 448, 449, 450, 451, 452, 453, 454, 455, 456, 457, 458] (by decide +kernel) (by decide +kernel)
set_option maxRecDepth 20000 in
theorem ggL_sum_L_of_p22 : GoodIn wsL_sum wsX100 := goodIn_r _ [459, 460, 461, 462, 463] (by decide +kernel) (by decide +kernel)
set_option maxRecDepth 20000 in
theorem ggL_sum_L_of_p23 : GoodIn wsL_sum wsX00 := goodIn_r _ [427, 428, 429, 430, 431] (by decide +kernel) (by decide +kernel)
set_option maxRecDepth 20000 in
theorem ggL_sum_L_of_p24 : GoodIn wsL_sum wsX10 := goodIn_r _ [485, 486, 487, 488] (by decide +kernel) (by decide +kernel)
set_option maxRecDepth 20000 in
theorem ggL_sum_L_of : GoodIn wsL_sum wsL_of := goodIn_ca (goodIn_ca (goodIn_ca (goodIn_app ggL_sum_L_of_p0 (goodIn_app (goodIn_app (goodIn_app (goodIn_app (goodIn_app (goodIn_app (goodIn_app (goodIn_app (goodIn_app (goodIn_app (goodIn_app ggL_sum_L_of_p1 (goodIn_app ggL_sum_L_of_p2 (goodIn_app ggL_sum_L_of_p3 (goodIn_app ggL_sum_L_of_p4 (goodIn_app ggL_sum_L_of_p5 (goodIn_app ggL_sum_L_of_p6 (goodIn_app ggL_sum_L_of_p7 (goodIn_app ggL_sum_L_of_p8 (goodIn_app ggL_sum_L_of_p9 (goodIn_app ggL_sum_L_of_p10 (goodIn_app ggL_sum_L_of_p11 (goodIn_app ggL_sum_L_of_p12 (goodIn_app ggL_sum_L_of_p13 ggL_sum_L_of_p14))))))))))))) ggL_sum_L_of_p15) ggL_sum_L_of_p16) ggL_sum_L_of_p17) ggL_sum_L_of_p18) ggL_sum_L_of_p19) ggL_sum_L_of_p20) ggL_sum_L_of_p21) ggL_sum_L_of_p22) ggL_sum_L_of_p23) ggL_sum_L_of_p24)) (goodIn_sub (fun _ h => List.mem_cons_of_mem _ (List.mem_append_left _ (List.mem_append_right _ h))) (by decide +kernel))) (goodIn_sub (fun _ h => List.mem_cons_of_mem _ (List.mem_append_left _ (List.mem_append_left _ (List.mem_append_left _ (List.mem_append_right _ h))))) (by decide +kernel))) (goodIn_sub (fun _ h => List.mem_cons_of_mem _ (List.mem_append_left _ (List.mem_append_left _ (List.mem_append_right _ h)))) (by decide +kernel))
set_option maxRecDepth 20000 in
theorem gL_sum_L_of : GoodIn wsL_sum (va_wsS RL 115 yL_of wsL_of) := goodIn_app (goodIn_of _ (by decide +kernel)) ggL_sum_L_of
set_option maxRecDepth 20000 in
theorem ggL_sum_L_item_p0 : GoodIn wsL_sum [.codeWith yL_item cL_item 4 (some .int) [(0, 17, 18, 21)]] := goodIn_r _ [378] (by decide +kernel) (by decide +kernel)
set_option maxRecDepth 20000 in
theorem ggL_sum_L_item_p1 : GoodIn wsL_sum wsL_item_r1 := goodIn_r _ [379, 380, 381, 382, 10, 383, 384, 385, 12, 81, 386, 387, 388, 16, 389, 18, 390, 36, 37, 75, 76, 77, 78, 79] (by decide +kernel) (by decide +kernel)
set_option maxRecDepth 20000 in
theorem ggL_sum_L_item_p2 : GoodIn wsL_sum wsL_item_r2 := goodIn_r _ [74, 80, 82, 83, 84, 85, 86, 87, 88, 89, 90, 91, 92, 93, 94, 95, 96, 97, 98, 99, 100, 101, 14, 15] (by decide +kernel) (by decide +kernel)
set_option maxRecDepth 20000 in
theorem ggL_sum_L_item_p3 : GoodIn wsL_sum wsL_item_r3 := goodIn_r _ [17, 102, 103, 104, 44, 45, 46, 47, 48, 105, 106, 107, 108, 109, 110, 111, 112, 113, 114, 115, 116, 117, 118, 119] (by decide +kernel) (by decide +kernel)
set_option maxRecDepth 20000 in
theorem ggL_sum_L_item_p4 : GoodIn wsL_sum wsL_item_r4 := goodIn_r _ [120, 121, 122, 123, 124, 125, 126, 127, 128, 129, 27, 28, 130, 24, 25, 26, 131, 132, 133, 134, 135, 136, 137, 138] (by decide +kernel) (by decide +kernel)
set_option maxRecDepth 20000 in
theorem ggL_sum_L_item_p5 : GoodIn wsL_sum wsL_item_r5 := goodIn_r _ [139, 140, 141, 142, 143, 144, 145, 146, 147, 148, 149, 150, 151, 152, 153, 154, 155, 156, 157, 158, 159, 160, 161, 162] (by decide +kernel) (by decide +kernel)
set_option maxRecDepth 20000 in
theorem ggL_sum_L_item_p6 : GoodIn wsL_sum wsL_item_r6 := goodIn_r _ [163, 164, 165, 166, 167, 168, 169, 170, 171, 172, 173, 174, 34, 35, 175, 30, 31, 32, 33, 176, 177, 178, 179, 180] (by decide +kernel) (by decide +kernel)
set_option maxRecDepth 20000 in
theorem ggL_sum_L_item_p7 : GoodIn wsL_sum wsL_item_r7 := goodIn_r _ [181, 182, 183, 184, 185, 186, 187, 188, 189, 190, 191, 192, 193, 194, 195, 196, 197, 198, 199, 200, 201, 202, 203, 204] (by decide +kernel) (by decide +kernel)
set_option maxRecDepth 20000 in
theorem ggL_sum_L_item_p8 : GoodIn wsL_sum wsL_item_r8 := goodIn_r _ [205, 206, 207, 208, 209, 210, 211, 212, 213, 214, 215, 216, 217, 218, 219, 220, 221, 222, 223, 224, 225, 226, 227, 228] (by decide +kernel) (by decide +kernel)
set_option maxRecDepth 20000 in
theorem ggL_sum_L_item_p9 : GoodIn wsL_sum wsL_item_r9 := goodIn_r _ [229, 230, 231, 232, 233, 234, 235, 236, 237, 238, 239, 240, 241, 242, 243, 244, 245, 246, 247, 248, 249, 250, 251, 252] (by decide +kernel) (by decide +kernel)
set_option maxRecDepth 20000 in
theorem ggL_sum_L_item_p10 : GoodIn wsL_sum wsL_item_r10 := goodIn_r _ [253, 254, 255, 256, 257, 258, 259, 260, 261, 262, 263, 264, 265, 266, 267, 268, 269, 270, 271, 272, 273, 274, 275, 276] (by decide +kernel) (by decide +kernel)
set_option maxRecDepth 20000 in
theorem ggL_sum_L_item_p11 : GoodIn wsL_sum wsL_item_r11 := goodIn_r _ [277, 278, 279, 280, 281, 282, 283, 284, 285, 286, 287, 288, 289, 290, 291, 292, 293, 294, 295, 296, 297, 298, 299, 300] (by decide +kernel) (by decide +kernel)
set_option maxRecDepth 20000 in
theorem ggL_sum_L_item_p12 : GoodIn wsL_sum wsL_item_r12 := goodIn_r _ [301, 302, 303, 304, 305, 306, 307, 308, 309, 310, 311, 312, 313, 314, 315, 316, 317, 318, 319, 320, 321, 322, 323, 324] (by decide +kernel) (by decide +kernel)
set_option maxRecDepth 20000 in
theorem ggL_sum_L_item_p13 : GoodIn wsL_sum wsL_item_r13 := goodIn_r _ [325, 326, 327, 328, 329, 330, 331, 332, 333, 334, 391, 392, 393, 394, 395, 396, 397, 398, 399, 400, 401, 402, 363] (by decide +kernel) (by decide +kernel)
set_option maxRecDepth 20000 in
theorem ggL_sum_L_item_p14 : GoodIn wsL_sum wsX110 := goodIn_r _ [420, 421, 422, 423, 424, 425, 426] (by decide +kernel) (by decide +kernel)
set_option maxRecDepth 20000 in
theorem ggL_sum_L_item_p15 : GoodIn wsL_sum wsX00 := goodIn_r _ [427, 428, 429, 430, 431] (by decide +kernel) (by decide +kernel)
set_option maxRecDepth 20000 in
theorem ggL_sum_L_item_p16 : GoodIn wsL_sum wsX80 := goodIn_r _ [447, 448, 449, 450, 451, 452, 453, 454, 455, 456, 457, 458] (by decide +kernel) (by decide +kernel)
set_option maxRecDepth 20000 in
theorem ggL_sum_L_item_p17 : GoodIn wsL_sum wsX100 := goodIn_r _ [459, 460, 461, 462, 463] (by decide +kernel) (by decide +kernel)
set_option maxRecDepth 20000 in
theorem ggL_sum_L_item_p18 : GoodIn wsL_sum wsX60 := goodIn_r _ [432, 433, 434, 435, 436, 437] (by decide +kernel) (by decide +kernel)
set_option maxRecDepth 20000 in
theorem ggL_sum_L_item_p19 : GoodIn wsL_sum wsX20 := goodIn_r _ [464, 465, 466, 467, 468, 469, 470, 471, 472] (by decide +kernel) (by decide +kernel)
set_option maxRecDepth 20000 in
theorem ggL_sum_L_item_p20 : GoodIn wsL_sum wsX30 := goodIn_r _ [473, 474, 475, 476] (by decide +kernel) (by decide +kernel)
set_option maxRecDepth 20000 in
theorem ggL_sum_L_item_p21 : GoodIn wsL_sum wsX70 := goodIn_r _ [477, 478, 479, 480] (by decide +kernel) (by decide +kernel)
set_option maxRecDepth 20000 in
theorem ggL_sum_L_item_p22 : GoodIn wsL_sum wsX90 := goodIn_r _ [481, 482, 483, 484] (by decide +kernel) (by decide +kernel)
set_option maxRecDepth 20000 in
theorem ggL_sum_L_item_p23 : GoodIn wsL_sum wsX10 := goodIn_r _ [485, 486, 487, 488] (by decide +kernel) (by decide +kernel)
set_option maxRecDepth 20000 in
theorem ggL_sum_L_item : GoodIn wsL_sum wsL_item := goodIn_ca (goodIn_ca (goodIn_ca (goodIn_app ggL_sum_L_item_p0 (goodIn_app (goodIn_app (goodIn_app (goodIn_app (goodIn_app (goodIn_app (goodIn_app (goodIn_app (goodIn_app (goodIn_app (goodIn_app ggL_sum_L_item_p1 (goodIn_app ggL_sum_L_item_p2 (goodIn_app ggL_sum_L_item_p3 (goodIn_app ggL_sum_L_item_p4 (goodIn_app ggL_sum_L_item_p5 (goodIn_app ggL_sum_L_item_p6 (goodIn_app ggL_sum_L_item_p7 (goodIn_app ggL_sum_L_item_p8 (goodIn_app ggL_sum_L_item_p9 (goodIn_app ggL_sum_L_item_p10 (goodIn_app ggL_sum_L_item_p11 (goodIn_app ggL_sum_L_item_p12 ggL_sum_L_item_p13)))))))))))) ggL_sum_L_item_p14) ggL_sum_L_item_p15) ggL_sum_L_item_p16) ggL_sum_L_item_p17) ggL_sum_L_item_p18) ggL_sum_L_item_p19) ggL_sum_L_item_p20) ggL_sum_L_item_p21) ggL_sum_L_item_p22) ggL_sum_L_item_p23)) (goodIn_sub (fun _ h => List.mem_cons_of_mem _ (List.mem_append_right _ h)) (by decide +kernel))) (goodIn_sub (fun _ h => List.mem_cons_of_mem _ (List.mem_append_left _ (List.mem_append_left _ (List.mem_append_left _ (List.mem_append_right _ h))))) (by decide +kernel))) (goodIn_sub (fun _ h => List.mem_cons_of_mem _ (List.mem_append_left _ (List.mem_append_left _ (List.mem_append_right _ h)))) (by decide +kernel))
set_option maxRecDepth 20000 in
theorem gL_sum_L_item : GoodIn wsL_sum (va_wsS RL 123 yL_item wsL_item) := goodIn_app (goodIn_of _ (by decide +kernel)) ggL_sum_L_item
set_option maxRecDepth 20000 in
theorem ggL_sum_L_buyer : GoodIn wsL_sum wsL_buyer := goodIn_ca (goodIn_ca (goodIn_r _ [405, 379, 406, 407, 408, 10, 409, 384, 385, 53, 410, 411, 412, 57, 413, 414, 415, 416, 417, 418, 419, 36, 37, 420, 421, 422, 423, 424, 425, 426, 438, 439, 440, 441, 442, 443, 444, 445, 446] (by decide +kernel) (by decide +kernel)) (goodIn_sub (fun _ h => List.mem_cons_of_mem _ (List.mem_append_right _ h)) (by decide +kernel))) (goodIn_sub (fun _ h => List.mem_cons_of_mem _ (List.mem_append_left _ (List.mem_append_left _ (List.mem_append_left _ (List.mem_append_right _ h))))) (by decide +kernel))
set_option maxRecDepth 20000 in
theorem gL_sum_L_buyer : GoodIn wsL_sum (va_wsS RL 127 yL_buyer wsL_buyer) := goodIn_app (goodIn_of _ (by decide +kernel)) ggL_sum_L_buyer
theorem dL_sum_0 : decode cL_sum 0 = .ok (.aload_n 0, 1) := by decide +kernel
theorem dL_sum_1 : decode cL_sum 1 = .ok (.invokevirtual 86, 3) := by decide +kernel
theorem dL_sum_4 : decode cL_sum 4 = .ok (.i2l, 1) := by decide +kernel
theorem dL_sum_5 : decode cL_sum 5 = .ok (.ldc2_w 89, 3) := by decide +kernel
theorem dL_sum_8 : decode cL_sum 8 = .ok (.aload_n 0, 1) := by decide +kernel
theorem dL_sum_9 : decode cL_sum 9 = .ok (.invokevirtual 91, 3) := by decide +kernel
theorem dL_sum_12 : decode cL_sum 12 = .ok (.i2l, 1) := by decide +kernel
theorem dL_sum_13 : decode cL_sum 13 = .ok (.lmul, 1) := by decide +kernel
theorem dL_sum_14 : decode cL_sum 14 = .ok (.ladd, 1) := by decide +kernel
theorem dL_sum_15 : decode cL_sum 15 = .ok (.ldc2_w 94, 3) := by decide +kernel
theorem dL_sum_18 : decode cL_sum 18 = .ok (.aload_n 0, 1) := by decide +kernel
theorem dL_sum_19 : decode cL_sum 19 = .ok (.invokevirtual 96, 3) := by decide +kernel
theorem dL_sum_22 : decode cL_sum 22 = .ok (.i2l, 1) := by decide +kernel
theorem dL_sum_23 : decode cL_sum 23 = .ok (.lmul, 1) := by decide +kernel
theorem dL_sum_24 : decode cL_sum 24 = .ok (.ladd, 1) := by decide +kernel
theorem dL_sum_25 : decode cL_sum 25 = .ok (.ldc2_w 99, 3) := by decide +kernel
theorem dL_sum_28 : decode cL_sum 28 = .ok (.aload_n 0, 1) := by decide +kernel
theorem dL_sum_29 : decode cL_sum 29 = .ok (.invokevirtual 101, 3) := by decide +kernel
theorem dL_sum_32 : decode cL_sum 32 = .ok (.lmul, 1) := by decide +kernel
theorem dL_sum_33 : decode cL_sum 33 = .ok (.ladd, 1) := by decide +kernel
theorem dL_sum_34 : decode cL_sum 34 = .ok (.ldc2_w 105, 3) := by decide +kernel
theorem dL_sum_37 : decode cL_sum 37 = .ok (.aload_n 0, 1) := by decide +kernel
theorem dL_sum_38 : decode cL_sum 38 = .ok (.invokevirtual 107, 3) := by decide +kernel
theorem dL_sum_41 : decode cL_sum 41 = .ok (.i2l, 1) := by decide +kernel
theorem dL_sum_42 : decode cL_sum 42 = .ok (.lmul, 1) := by decide +kernel
theorem dL_sum_43 : decode cL_sum 43 = .ok (.ladd, 1) := by decide +kernel
theorem dL_sum_44 : decode cL_sum 44 = .ok (.ldc2_w 110, 3) := by decide +kernel
theorem dL_sum_47 : decode cL_sum 47 = .ok (.aload_n 0, 1) := by decide +kernel
theorem dL_sum_48 : decode cL_sum 48 = .ok (.invokevirtual 112, 3) := by decide +kernel
theorem dL_sum_51 : decode cL_sum 51 = .ok (.i2l, 1) := by decide +kernel
theorem dL_sum_52 : decode cL_sum 52 = .ok (.lmul, 1) := by decide +kernel
theorem dL_sum_53 : decode cL_sum 53 = .ok (.ladd, 1) := by decide +kernel
theorem dL_sum_54 : decode cL_sum 54 = .ok (.lstore_n 2, 1) := by decide +kernel
theorem dL_sum_55 : decode cL_sum 55 = .ok (.iconst 0, 1) := by decide +kernel
theorem dL_sum_56 : decode cL_sum 56 = .ok (.istore 4, 2) := by decide +kernel
theorem dL_sum_58 : decode cL_sum 58 = .ok (.iload 4, 2) := by decide +kernel
theorem dL_sum_60 : decode cL_sum 60 = .ok (.aload_n 0, 1) := by decide +kernel
theorem dL_sum_61 : decode cL_sum 61 = .ok (.invokevirtual 96, 3) := by decide +kernel
theorem dL_sum_64 : decode cL_sum 64 = .ok (.if_icmp .ge 39, 3) := by decide +kernel
theorem dL_sum_67 : decode cL_sum 67 = .ok (.ldc2_w 89, 3) := by decide +kernel
theorem dL_sum_70 : decode cL_sum 70 = .ok (.lload_n 2, 1) := by decide +kernel
theorem dL_sum_71 : decode cL_sum 71 = .ok (.lmul, 1) := by decide +kernel
theorem dL_sum_72 : decode cL_sum 72 = .ok (.aload_n 0, 1) := by decide +kernel
theorem dL_sum_73 : decode cL_sum 73 = .ok (.iload 4, 2) := by decide +kernel
theorem dL_sum_75 : decode cL_sum 75 = .ok (.bipush 108, 2) := by decide +kernel
theorem dL_sum_77 : decode cL_sum 77 = .ok (.invokestatic 115, 3) := by decide +kernel
theorem dL_sum_80 : decode cL_sum 80 = .ok (.i2l, 1) := by decide +kernel
theorem dL_sum_81 : decode cL_sum 81 = .ok (.ladd, 1) := by decide +kernel
theorem dL_sum_82 : decode cL_sum 82 = .ok (.ldc2_w 121, 3) := by decide +kernel
theorem dL_sum_85 : decode cL_sum 85 = .ok (.aload_n 0, 1) := by decide +kernel
theorem dL_sum_86 : decode cL_sum 86 = .ok (.iload 4, 2) := by decide +kernel
theorem dL_sum_88 : decode cL_sum 88 = .ok (.bipush 114, 2) := by decide +kernel
theorem dL_sum_90 : decode cL_sum 90 = .ok (.invokestatic 115, 3) := by decide +kernel
theorem dL_sum_93 : decode cL_sum 93 = .ok (.i2l, 1) := by decide +kernel
theorem dL_sum_94 : decode cL_sum 94 = .ok (.lmul, 1) := by decide +kernel
theorem dL_sum_95 : decode cL_sum 95 = .ok (.ladd, 1) := by decide +kernel
theorem dL_sum_96 : decode cL_sum 96 = .ok (.lstore_n 2, 1) := by decide +kernel
theorem dL_sum_97 : decode cL_sum 97 = .ok (.iinc 4 1, 3) := by decide +kernel
theorem dL_sum_100 : decode cL_sum 100 = .ok (.goto (-42), 3) := by decide +kernel
theorem dL_sum_103 : decode cL_sum 103 = .ok (.iconst 0, 1) := by decide +kernel
theorem dL_sum_104 : decode cL_sum 104 = .ok (.istore 4, 2) := by decide +kernel
theorem dL_sum_106 : decode cL_sum 106 = .ok (.iload 4, 2) := by decide +kernel
theorem dL_sum_108 : decode cL_sum 108 = .ok (.iload_n 1, 1) := by decide +kernel
theorem dL_sum_109 : decode cL_sum 109 = .ok (.if_icmp .ge 36, 3) := by decide +kernel
theorem dL_sum_112 : decode cL_sum 112 = .ok (.ldc2_w 89, 3) := by decide +kernel
theorem dL_sum_115 : decode cL_sum 115 = .ok (.lload_n 2, 1) := by decide +kernel
theorem dL_sum_116 : decode cL_sum 116 = .ok (.lmul, 1) := by decide +kernel
theorem dL_sum_117 : decode cL_sum 117 = .ok (.aload_n 0, 1) := by decide +kernel
theorem dL_sum_118 : decode cL_sum 118 = .ok (.iload 4, 2) := by decide +kernel
theorem dL_sum_120 : decode cL_sum 120 = .ok (.iconst 1, 1) := by decide +kernel
theorem dL_sum_121 : decode cL_sum 121 = .ok (.invokestatic 123, 3) := by decide +kernel
theorem dL_sum_124 : decode cL_sum 124 = .ok (.i2l, 1) := by decide +kernel
theorem dL_sum_125 : decode cL_sum 125 = .ok (.ladd, 1) := by decide +kernel
theorem dL_sum_126 : decode cL_sum 126 = .ok (.ldc2_w 121, 3) := by decide +kernel
theorem dL_sum_129 : decode cL_sum 129 = .ok (.aload_n 0, 1) := by decide +kernel
theorem dL_sum_130 : decode cL_sum 130 = .ok (.iload 4, 2) := by decide +kernel
theorem dL_sum_132 : decode cL_sum 132 = .ok (.invokestatic 127, 3) := by decide +kernel
theorem dL_sum_135 : decode cL_sum 135 = .ok (.i2l, 1) := by decide +kernel
theorem dL_sum_136 : decode cL_sum 136 = .ok (.lmul, 1) := by decide +kernel
theorem dL_sum_137 : decode cL_sum 137 = .ok (.ladd, 1) := by decide +kernel
theorem dL_sum_138 : decode cL_sum 138 = .ok (.lstore_n 2, 1) := by decide +kernel
theorem dL_sum_139 : decode cL_sum 139 = .ok (.iinc 4 1, 3) := by decide +kernel
theorem dL_sum_142 : decode cL_sum 142 = .ok (.goto (-36), 3) := by decide +kernel
theorem dL_sum_145 : decode cL_sum 145 = .ok (.lload_n 2, 1) := by decide +kernel
theorem dL_sum_146 : decode cL_sum 146 = .ok (.lreturn, 1) := by decide +kernel
set_option maxRecDepth 20000 in
theorem ggL_isSound_X11_bestDiscount_p0 : GoodIn wsL_isSound [.code yX11_bestDiscount cX11_bestDiscount 1 (some .int)] := goodIn_r _ [10] (by decide +kernel) (by decide +kernel)
set_option maxRecDepth 20000 in
theorem ggL_isSound_X11_bestDiscount_p1 : GoodIn wsL_isSound wsX11_bestDiscount_r1 := goodIn_r _ [11, 12, 13, 14, 9, 15, 16, 17, 18, 19, 20, 21, 22, 23, 24, 25, 26, 27, 28, 29, 30, 31, 32, 33] (by decide +kernel) (by decide +kernel)
set_option maxRecDepth 20000 in
theorem ggL_isSound_X11_bestDiscount_p2 : GoodIn wsL_isSound wsX11_bestDiscount_r2 := goodIn_r _ [34, 35, 36, 37, 38, 39, 40, 41, 42, 43, 44, 45, 46, 47, 48, 49, 50, 51, 52, 53, 54, 55, 56, 57] (by decide +kernel) (by decide +kernel)
set_option maxRecDepth 20000 in
theorem ggL_isSound_X11_bestDiscount_p3 : GoodIn wsL_isSound wsX11_bestDiscount_r3 := goodIn_r _ [58, 59, 60, 61, 62, 63, 64, 65, 66, 67, 68, 69, 70, 71, 72, 73, 74, 75, 76, 77, 78, 79, 80, 81] (by decide +kernel) (by decide +kernel)
set_option maxRecDepth 20000 in
theorem ggL_isSound_X11_bestDiscount_p4 : GoodIn wsL_isSound wsX11_bestDiscount_r4 := goodIn_r _ [82, 83, 84, 85, 86, 87, 88, 89, 90, 91, 92, 93, 94, 95, 96, 97, 98, 99, 100, 101, 102, 103, 104, 105] (by decide +kernel) (by decide +kernel)
set_option maxRecDepth 20000 in
theorem ggL_isSound_X11_bestDiscount_p5 : GoodIn wsL_isSound wsX11_bestDiscount_r5 := goodIn_r _ [106, 107, 108, 109, 110, 111, 112, 113, 114, 115, 116, 117, 118, 119, 120, 121, 122, 123, 124, 125, 126, 127, 128, 129] (by decide +kernel) (by decide +kernel)
set_option maxRecDepth 20000 in
theorem ggL_isSound_X11_bestDiscount_p6 : GoodIn wsL_isSound wsX11_bestDiscount_r6 := goodIn_r _ [130, 131, 132, 133, 134, 135, 136, 137, 138, 139, 140, 141, 142, 143, 144, 145, 146, 147, 4, 148, 149, 150, 151, 152] (by decide +kernel) (by decide +kernel)
set_option maxRecDepth 20000 in
theorem ggL_isSound_X11_bestDiscount_p7 : GoodIn wsL_isSound wsX11_bestDiscount_r7 := goodIn_r _ [153, 154, 155, 156, 157, 158, 159, 160, 161, 162, 163, 164, 165, 166, 167, 168, 169, 170, 171, 172, 173, 174, 175, 176] (by decide +kernel) (by decide +kernel)
set_option maxRecDepth 20000 in
theorem ggL_isSound_X11_bestDiscount_p8 : GoodIn wsL_isSound wsX11_bestDiscount_r8 := goodIn_r _ [177, 178, 179, 180, 181, 182, 183, 3, 5, 184, 185, 186, 187, 188, 189, 190, 191, 192, 193, 194, 195, 196, 197, 198] (by decide +kernel) (by decide +kernel)
set_option maxRecDepth 20000 in
theorem ggL_isSound_X11_bestDiscount_p9 : GoodIn wsL_isSound wsX11_bestDiscount_r9 := goodIn_r _ [199, 200, 201, 202, 203, 204, 205, 206, 207, 208, 209, 210, 211, 212, 213, 214, 215, 216, 217, 218, 219, 220, 221, 222] (by decide +kernel) (by decide +kernel)
set_option maxRecDepth 20000 in
theorem ggL_isSound_X11_bestDiscount_p10 : GoodIn wsL_isSound wsX11_bestDiscount_r10 := goodIn_r _ [223, 224, 225, 226, 227, 228, 229, 230, 231, 232, 233, 234, 235, 236, 237, 238, 239, 240, 241, 242, 243, 244, 245, 246] (by decide +kernel) (by decide +kernel)
set_option maxRecDepth 20000 in
theorem ggL_isSound_X11_bestDiscount_p11 : GoodIn wsL_isSound wsX11_bestDiscount_r11 := goodIn_r _ [247, 248, 249, 250, 251, 252, 253, 254, 255, 256, 257, 258, 259, 260, 261, 262, 263, 264, 265, 266, 267, 268, 269, 270] (by decide +kernel) (by decide +kernel)
set_option maxRecDepth 20000 in
theorem ggL_isSound_X11_bestDiscount_p12 : GoodIn wsL_isSound wsX11_bestDiscount_r12 := goodIn_r _ [271, 272, 273, 274, 275, 276, 277, 278, 279, 280, 281, 282, 283, 284, 285, 286, 287, 288, 289, 290, 291, 292, 293, 294] (by decide +kernel) (by decide +kernel)
set_option maxRecDepth 20000 in
theorem ggL_isSound_X11_bestDiscount_p13 : GoodIn wsL_isSound wsX11_bestDiscount_r13 := goodIn_r _ [295] (by decide +kernel) (by decide +kernel)
set_option maxRecDepth 20000 in
theorem ggL_isSound_X11_bestDiscount_p14 : GoodIn wsL_isSound wsX110 := goodIn_r _ [408, 409, 410, 411, 412, 413, 414] (by decide +kernel) (by decide +kernel)
set_option maxRecDepth 20000 in
theorem ggL_isSound_X11_bestDiscount_p15 : GoodIn wsL_isSound wsX80 := goodIn_r _ [415, 416, 417, 418, 419, 420, 421, 422, 423, 424, 425, 426] (by decide +kernel) (by decide +kernel)
set_option maxRecDepth 20000 in
theorem ggL_isSound_X11_bestDiscount_p16 : GoodIn wsL_isSound wsX100 := goodIn_r _ [427, 428, 429, 430, 431] (by decide +kernel) (by decide +kernel)
set_option maxRecDepth 20000 in
theorem ggL_isSound_X11_bestDiscount_p17 : GoodIn wsL_isSound wsX00 := goodIn_r _ [432, 433, 434, 435, 436] (by decide +kernel) (by decide +kernel)
set_option maxRecDepth 20000 in
theorem ggL_isSound_X11_bestDiscount_p18 : GoodIn wsL_isSound wsX60 := goodIn_r _ [437, 438, 439, 440, 441, 442] (by decide +kernel) (by decide +kernel)
set_option maxRecDepth 20000 in
theorem ggL_isSound_X11_bestDiscount_p19 : GoodIn wsL_isSound wsX20 := goodIn_r _ [443, 444, 445, 446, 447, 448, 449, 450, 451] (by decide +kernel) (by decide +kernel)
set_option maxRecDepth 20000 in
theorem ggL_isSound_X11_bestDiscount_p20 : GoodIn wsL_isSound wsX30 := goodIn_r _ [452, 453, 454, 455] (by decide +kernel) (by decide +kernel)
set_option maxRecDepth 20000 in
theorem ggL_isSound_X11_bestDiscount_p21 : GoodIn wsL_isSound wsX70 := goodIn_r _ [456, 457, 458, 459] (by decide +kernel) (by decide +kernel)
set_option maxRecDepth 20000 in
theorem ggL_isSound_X11_bestDiscount_p22 : GoodIn wsL_isSound wsX90 := goodIn_r _ [460, 461, 462, 463] (by decide +kernel) (by decide +kernel)
set_option maxRecDepth 20000 in
theorem ggL_isSound_X11_bestDiscount_p23 : GoodIn wsL_isSound wsX10 := goodIn_r _ [464, 465, 466, 467] (by decide +kernel) (by decide +kernel)
set_option maxRecDepth 20000 in
theorem ggL_isSound_X11_bestDiscount : GoodIn wsL_isSound wsX11_bestDiscount := goodIn_ca (goodIn_ca (goodIn_app ggL_isSound_X11_bestDiscount_p0 (goodIn_app (goodIn_app (goodIn_app (goodIn_app (goodIn_app (goodIn_app (goodIn_app (goodIn_app (goodIn_app (goodIn_app (goodIn_app ggL_isSound_X11_bestDiscount_p1 (goodIn_app ggL_isSound_X11_bestDiscount_p2 (goodIn_app ggL_isSound_X11_bestDiscount_p3 (goodIn_app ggL_isSound_X11_bestDiscount_p4 (goodIn_app ggL_isSound_X11_bestDiscount_p5 (goodIn_app ggL_isSound_X11_bestDiscount_p6 (goodIn_app ggL_isSound_X11_bestDiscount_p7 (goodIn_app ggL_isSound_X11_bestDiscount_p8 (goodIn_app ggL_isSound_X11_bestDiscount_p9 (goodIn_app ggL_isSound_X11_bestDiscount_p10 (goodIn_app ggL_isSound_X11_bestDiscount_p11 (goodIn_app ggL_isSound_X11_bestDiscount_p12 ggL_isSound_X11_bestDiscount_p13)))))))))))) ggL_isSound_X11_bestDiscount_p14) ggL_isSound_X11_bestDiscount_p15) ggL_isSound_X11_bestDiscount_p16) ggL_isSound_X11_bestDiscount_p17) ggL_isSound_X11_bestDiscount_p18) ggL_isSound_X11_bestDiscount_p19) ggL_isSound_X11_bestDiscount_p20) ggL_isSound_X11_bestDiscount_p21) ggL_isSound_X11_bestDiscount_p22) ggL_isSound_X11_bestDiscount_p23)) (goodIn_sub (fun _ h => List.mem_cons_of_mem _ (List.mem_append_left _ (List.mem_append_left _ (List.mem_append_left _ (List.mem_append_left _ (List.mem_append_right _ h)))))) (by decide +kernel))) (goodIn_sub (fun _ h => List.mem_cons_of_mem _ (List.mem_append_left _ (List.mem_append_left _ (List.mem_append_left _ (List.mem_append_right _ h))))) (by decide +kernel))
set_option maxRecDepth 20000 in
theorem gL_isSound_X11_bestDiscount : GoodIn wsL_isSound (wsV RL 112 RX11 yX11_bestDiscount wsX11_bestDiscount) := goodIn_app (goodIn_of _ (by decide +kernel)) ggL_isSound_X11_bestDiscount
set_option maxRecDepth 20000 in
theorem ggL_isSound_L_tries_p0 : GoodIn wsL_isSound [.codeWith yL_tries cL_tries 2 (some .int) [(0, 4, 5, 62)]] := goodIn_r _ [299] (by decide +kernel) (by decide +kernel)
set_option maxRecDepth 20000 in
theorem ggL_isSound_L_tries_p1 : GoodIn wsL_isSound wsL_tries_r1 := goodIn_r _ [300, 301, 302, 303, 9, 304, 305, 306, 307, 11, 308, 39, 40, 41, 42, 43, 12, 13, 14, 15, 16, 17, 18, 19] (by decide +kernel) (by decide +kernel)
set_option maxRecDepth 20000 in
theorem ggL_isSound_L_tries_p2 : GoodIn wsL_isSound wsL_tries_r2 := goodIn_r _ [20, 21, 22, 23, 24, 25, 26, 27, 28, 29, 30, 31, 32, 33, 34, 35, 36, 37, 38, 44, 45, 46, 47, 48] (by decide +kernel) (by decide +kernel)
set_option maxRecDepth 20000 in
theorem ggL_isSound_L_tries_p3 : GoodIn wsL_isSound wsL_tries_r3 := goodIn_r _ [49, 50, 51, 52, 53, 54, 55, 56, 57, 58, 59, 60, 61, 62, 63, 64, 65, 66, 67, 68, 69, 70, 71, 72] (by decide +kernel) (by decide +kernel)
set_option maxRecDepth 20000 in
theorem ggL_isSound_L_tries_p4 : GoodIn wsL_isSound wsL_tries_r4 := goodIn_r _ [73, 74, 75, 76, 77, 78, 79, 80, 81, 82, 83, 84, 85, 86, 87, 88, 89, 90, 91, 92, 93, 94, 95, 96] (by decide +kernel) (by decide +kernel)
set_option maxRecDepth 20000 in
theorem ggL_isSound_L_tries_p5 : GoodIn wsL_isSound wsL_tries_r5 := goodIn_r _ [97, 98, 99, 100, 101, 102, 103, 104, 105, 106, 107, 108, 109, 110, 111, 112, 113, 114, 115, 116, 117, 118, 119, 120] (by decide +kernel) (by decide +kernel)
set_option maxRecDepth 20000 in
theorem ggL_isSound_L_tries_p6 : GoodIn wsL_isSound wsL_tries_r6 := goodIn_r _ [121, 122, 123, 124, 125, 126, 127, 128, 129, 130, 131, 132, 133, 134, 135, 136, 137, 138, 139, 140, 141, 142, 143, 144] (by decide +kernel) (by decide +kernel)
set_option maxRecDepth 20000 in
theorem ggL_isSound_L_tries_p7 : GoodIn wsL_isSound wsL_tries_r7 := goodIn_r _ [145, 146, 147, 4, 148, 149, 150, 151, 152, 153, 154, 155, 156, 157, 158, 159, 160, 161, 162, 163, 164, 165, 166, 167] (by decide +kernel) (by decide +kernel)
set_option maxRecDepth 20000 in
theorem ggL_isSound_L_tries_p8 : GoodIn wsL_isSound wsL_tries_r8 := goodIn_r _ [168, 169, 170, 171, 172, 173, 174, 175, 176, 177, 178, 179, 180, 181, 182, 183, 3, 5, 184, 185, 186, 187, 188, 189] (by decide +kernel) (by decide +kernel)
set_option maxRecDepth 20000 in
theorem ggL_isSound_L_tries_p9 : GoodIn wsL_isSound wsL_tries_r9 := goodIn_r _ [190, 191, 192, 193, 194, 195, 196, 197, 198, 199, 200, 201, 202, 203, 204, 205, 206, 207, 208, 209, 210, 211, 212, 213] (by decide +kernel) (by decide +kernel)
set_option maxRecDepth 20000 in
theorem ggL_isSound_L_tries_p10 : GoodIn wsL_isSound wsL_tries_r10 := goodIn_r _ [214, 215, 216, 217, 218, 219, 220, 221, 222, 223, 224, 225, 226, 227, 228, 229, 230, 231, 232, 233, 234, 235, 236, 237] (by decide +kernel) (by decide +kernel)
set_option maxRecDepth 20000 in
theorem ggL_isSound_L_tries_p11 : GoodIn wsL_isSound wsL_tries_r11 := goodIn_r _ [238, 239, 240, 241, 242, 243, 244, 245, 246, 247, 248, 249, 250, 251, 252, 253, 254, 255, 256, 257, 258, 259, 260, 261] (by decide +kernel) (by decide +kernel)
set_option maxRecDepth 20000 in
theorem ggL_isSound_L_tries_p12 : GoodIn wsL_isSound wsL_tries_r12 := goodIn_r _ [262, 263, 264, 265, 266, 267, 268, 269, 270, 271, 272, 273, 274, 275, 276, 277, 278, 279, 280, 281, 282, 283, 284, 285] (by decide +kernel) (by decide +kernel)
set_option maxRecDepth 20000 in
theorem ggL_isSound_L_tries_p13 : GoodIn wsL_isSound wsL_tries_r13 := goodIn_r _ [286, 287, 288, 289, 290, 291, 309, 310, 311, 312, 313, 314, 315, 316, 317, 318, 319, 320] (by decide +kernel) (by decide +kernel)
set_option maxRecDepth 20000 in
theorem ggL_isSound_L_tries_p14 : GoodIn wsL_isSound wsX110 := goodIn_r _ [408, 409, 410, 411, 412, 413, 414] (by decide +kernel) (by decide +kernel)
set_option maxRecDepth 20000 in
theorem ggL_isSound_L_tries_p15 : GoodIn wsL_isSound wsX00 := goodIn_r _ [432, 433, 434, 435, 436] (by decide +kernel) (by decide +kernel)
set_option maxRecDepth 20000 in
theorem ggL_isSound_L_tries_p16 : GoodIn wsL_isSound wsX80 := goodIn_r _ [415, 416, 417, 418, 419, 420, 421, 422, 423, 424, 425, 426] (by decide +kernel) (by decide +kernel)
set_option maxRecDepth 20000 in
theorem ggL_isSound_L_tries_p17 : GoodIn wsL_isSound wsX100 := goodIn_r _ [427, 428, 429, 430, 431] (by decide +kernel) (by decide +kernel)
set_option maxRecDepth 20000 in
theorem ggL_isSound_L_tries_p18 : GoodIn wsL_isSound wsX60 := goodIn_r _ [437, 438, 439, 440, 441, 442] (by decide +kernel) (by decide +kernel)
set_option maxRecDepth 20000 in
theorem ggL_isSound_L_tries_p19 : GoodIn wsL_isSound wsX20 := goodIn_r _ [443, 444, 445, 446, 447, 448, 449, 450, 451] (by decide +kernel) (by decide +kernel)
set_option maxRecDepth 20000 in
theorem ggL_isSound_L_tries_p20 : GoodIn wsL_isSound wsX30 := goodIn_r _ [452, 453, 454, 455] (by decide +kernel) (by decide +kernel)
set_option maxRecDepth 20000 in
theorem ggL_isSound_L_tries_p21 : GoodIn wsL_isSound wsX70 := goodIn_r _ [456, 457, 458, 459] (by decide +kernel) (by decide +kernel)
set_option maxRecDepth 20000 in
theorem ggL_isSound_L_tries_p22 : GoodIn wsL_isSound wsX90 := goodIn_r _ [460, 461, 462, 463] (by decide +kernel) (by decide +kernel)
set_option maxRecDepth 20000 in
theorem ggL_isSound_L_tries_p23 : GoodIn wsL_isSound wsX10 := goodIn_r _ [464, 465, 466, 467] (by decide +kernel) (by decide +kernel)
set_option maxRecDepth 20000 in
theorem ggL_isSound_L_tries : GoodIn wsL_isSound wsL_tries := goodIn_ca (goodIn_ca (goodIn_ca (goodIn_app ggL_isSound_L_tries_p0 (goodIn_app (goodIn_app (goodIn_app (goodIn_app (goodIn_app (goodIn_app (goodIn_app (goodIn_app (goodIn_app (goodIn_app (goodIn_app ggL_isSound_L_tries_p1 (goodIn_app ggL_isSound_L_tries_p2 (goodIn_app ggL_isSound_L_tries_p3 (goodIn_app ggL_isSound_L_tries_p4 (goodIn_app ggL_isSound_L_tries_p5 (goodIn_app ggL_isSound_L_tries_p6 (goodIn_app ggL_isSound_L_tries_p7 (goodIn_app ggL_isSound_L_tries_p8 (goodIn_app ggL_isSound_L_tries_p9 (goodIn_app ggL_isSound_L_tries_p10 (goodIn_app ggL_isSound_L_tries_p11 (goodIn_app ggL_isSound_L_tries_p12 ggL_isSound_L_tries_p13)))))))))))) ggL_isSound_L_tries_p14) ggL_isSound_L_tries_p15) ggL_isSound_L_tries_p16) ggL_isSound_L_tries_p17) ggL_isSound_L_tries_p18) ggL_isSound_L_tries_p19) ggL_isSound_L_tries_p20) ggL_isSound_L_tries_p21) ggL_isSound_L_tries_p22) ggL_isSound_L_tries_p23)) (goodIn_sub (fun _ h => List.mem_cons_of_mem _ (List.mem_append_left _ (List.mem_append_left _ (List.mem_append_right _ h)))) (by decide +kernel))) (goodIn_sub (fun _ h => List.mem_cons_of_mem _ (List.mem_append_left _ (List.mem_append_left _ (List.mem_append_left _ (List.mem_append_left _ (List.mem_append_right _ h)))))) (by decide +kernel))) (goodIn_sub (fun _ h => List.mem_cons_of_mem _ (List.mem_append_left _ (List.mem_append_left _ (List.mem_append_left _ (List.mem_append_right _ h))))) (by decide +kernel))
set_option maxRecDepth 20000 in
theorem gL_isSound_L_tries : GoodIn wsL_isSound (va_wsS RL 131 yL_tries wsL_tries) := goodIn_app (goodIn_of _ (by decide +kernel)) ggL_isSound_L_tries
set_option maxRecDepth 20000 in
theorem ggL_isSound_L_item_p0 : GoodIn wsL_isSound [.codeWith yL_item cL_item 4 (some .int) [(0, 17, 18, 21)]] := goodIn_r _ [323] (by decide +kernel) (by decide +kernel)
set_option maxRecDepth 20000 in
theorem ggL_isSound_L_item_p1 : GoodIn wsL_isSound wsL_item_r1 := goodIn_r _ [324, 325, 326, 327, 9, 328, 329, 330, 307, 18, 331, 332, 333, 41, 334, 43, 335, 72, 73, 12, 13, 14, 15, 16] (by decide +kernel) (by decide +kernel)
set_option maxRecDepth 20000 in
theorem ggL_isSound_L_item_p2 : GoodIn wsL_isSound wsL_item_r2 := goodIn_r _ [11, 17, 19, 20, 21, 22, 23, 24, 25, 26, 27, 28, 29, 30, 31, 32, 33, 34, 35, 36, 37, 38, 39, 40] (by decide +kernel) (by decide +kernel)
set_option maxRecDepth 20000 in
theorem ggL_isSound_L_item_p3 : GoodIn wsL_isSound wsL_item_r3 := goodIn_r _ [42, 44, 45, 46, 47, 48, 49, 50, 51, 52, 53, 54, 55, 56, 57, 58, 59, 60, 61, 62, 63, 64, 65, 66] (by decide +kernel) (by decide +kernel)
set_option maxRecDepth 20000 in
theorem ggL_isSound_L_item_p4 : GoodIn wsL_isSound wsL_item_r4 := goodIn_r _ [67, 68, 69, 70, 71, 74, 75, 76, 77, 78, 79, 80, 81, 82, 83, 84, 85, 86, 87, 88, 89, 90, 91, 92] (by decide +kernel) (by decide +kernel)
set_option maxRecDepth 20000 in
theorem ggL_isSound_L_item_p5 : GoodIn wsL_isSound wsL_item_r5 := goodIn_r _ [93, 94, 95, 96, 97, 98, 99, 100, 101, 102, 103, 104, 105, 106, 107, 108, 109, 110, 111, 112, 113, 114, 115, 116] (by decide +kernel) (by decide +kernel)
set_option maxRecDepth 20000 in
theorem ggL_isSound_L_item_p6 : GoodIn wsL_isSound wsL_item_r6 := goodIn_r _ [117, 118, 119, 120, 121, 122, 123, 124, 125, 126, 127, 128, 129, 130, 131, 132, 133, 134, 135, 136, 137, 138, 139, 140] (by decide +kernel) (by decide +kernel)
set_option maxRecDepth 20000 in
theorem ggL_isSound_L_item_p7 : GoodIn wsL_isSound wsL_item_r7 := goodIn_r _ [141, 142, 143, 144, 145, 146, 147, 4, 148, 149, 150, 151, 152, 153, 154, 155, 156, 157, 158, 159, 160, 161, 162, 163] (by decide +kernel) (by decide +kernel)
set_option maxRecDepth 20000 in
theorem ggL_isSound_L_item_p8 : GoodIn wsL_isSound wsL_item_r8 := goodIn_r _ [164, 165, 166, 167, 168, 169, 170, 171, 172, 173, 174, 175, 176, 177, 178, 179, 180, 181, 182, 183, 3, 5, 184, 185] (by decide +kernel) (by decide +kernel)
set_option maxRecDepth 20000 in
theorem ggL_isSound_L_item_p9 : GoodIn wsL_isSound wsL_item_r9 := goodIn_r _ [186, 187, 188, 189, 190, 191, 192, 193, 194, 195, 196, 197, 198, 199, 200, 201, 202, 203, 204, 205, 206, 207, 208, 209] (by decide +kernel) (by decide +kernel)
set_option maxRecDepth 20000 in
theorem ggL_isSound_L_item_p10 : GoodIn wsL_isSound wsL_item_r10 := goodIn_r _ [210, 211, 212, 213, 214, 215, 216, 217, 218, 219, 220, 221, 222, 223, 224, 225, 226, 227, 228, 229, 230, 231, 232, 233] (by decide +kernel) (by decide +kernel)
set_option maxRecDepth 20000 in
theorem ggL_isSound_L_item_p11 : GoodIn wsL_isSound wsL_item_r11 := goodIn_r _ [234, 235, 236, 237, 238, 239, 240, 241, 242, 243, 244, 245, 246, 247, 248, 249, 250, 251, 252, 253, 254, 255, 256, 257] (by decide +kernel) (by decide +kernel)
set_option maxRecDepth 20000 in
theorem ggL_isSound_L_item_p12 : GoodIn wsL_isSound wsL_item_r12 := goodIn_r _ [258, 259, 260, 261, 262, 263, 264, 265, 266, 267, 268, 269, 270, 271, 272, 273, 274, 275, 276, 277, 278, 279, 280, 281] (by decide +kernel) (by decide +kernel)
set_option maxRecDepth 20000 in
theorem ggL_isSound_L_item_p13 : GoodIn wsL_isSound wsL_item_r13 := goodIn_r _ [282, 283, 284, 285, 286, 287, 288, 289, 290, 291, 336, 337, 338, 339, 340, 341, 342, 343, 344, 345, 346, 347, 348] (by decide +kernel) (by decide +kernel)
set_option maxRecDepth 20000 in
theorem ggL_isSound_L_item_p14 : GoodIn wsL_isSound wsX110 := goodIn_r _ [408, 409, 410, 411, 412, 413, 414] (by decide +kernel) (by decide +kernel)
set_option maxRecDepth 20000 in
theorem ggL_isSound_L_item_p15 : GoodIn wsL_isSound wsX00 := goodIn_r _ [432, 433, 434, 435, 436] (by decide +kernel) (by decide +kernel)
set_option maxRecDepth 20000 in
theorem ggL_isSound_L_item_p16 : GoodIn wsL_isSound wsX80 := goodIn_r _ [415, 416, 417, 418, 419, 420, 421, 422, 423, 424, 425, 426] (by decide +kernel) (by decide +kernel)
set_option maxRecDepth 20000 in
theorem ggL_isSound_L_item_p17 : GoodIn wsL_isSound wsX100 := goodIn_r _ [427, 428, 429, 430, 431] (by decide +kernel) (by decide +kernel)
set_option maxRecDepth 20000 in
theorem ggL_isSound_L_item_p18 : GoodIn wsL_isSound wsX60 := goodIn_r _ [437, 438, 439, 440, 441, 442] (by decide +kernel) (by decide +kernel)
set_option maxRecDepth 20000 in
theorem ggL_isSound_L_item_p19 : GoodIn wsL_isSound wsX20 := goodIn_r _ [443, 444, 445, 446, 447, 448, 449, 450, 451] (by decide +kernel) (by decide +kernel)
set_option maxRecDepth 20000 in
theorem ggL_isSound_L_item_p20 : GoodIn wsL_isSound wsX30 := goodIn_r _ [452, 453, 454, 455] (by decide +kernel) (by decide +kernel)
set_option maxRecDepth 20000 in
theorem ggL_isSound_L_item_p21 : GoodIn wsL_isSound wsX70 := goodIn_r _ [456, 457, 458, 459] (by decide +kernel) (by decide +kernel)
set_option maxRecDepth 20000 in
theorem ggL_isSound_L_item_p22 : GoodIn wsL_isSound wsX90 := goodIn_r _ [460, 461, 462, 463] (by decide +kernel) (by decide +kernel)
set_option maxRecDepth 20000 in
theorem ggL_isSound_L_item_p23 : GoodIn wsL_isSound wsX10 := goodIn_r _ [464, 465, 466, 467] (by decide +kernel) (by decide +kernel)
set_option maxRecDepth 20000 in
theorem ggL_isSound_L_item : GoodIn wsL_isSound wsL_item := goodIn_ca (goodIn_ca (goodIn_ca (goodIn_app ggL_isSound_L_item_p0 (goodIn_app (goodIn_app (goodIn_app (goodIn_app (goodIn_app (goodIn_app (goodIn_app (goodIn_app (goodIn_app (goodIn_app (goodIn_app ggL_isSound_L_item_p1 (goodIn_app ggL_isSound_L_item_p2 (goodIn_app ggL_isSound_L_item_p3 (goodIn_app ggL_isSound_L_item_p4 (goodIn_app ggL_isSound_L_item_p5 (goodIn_app ggL_isSound_L_item_p6 (goodIn_app ggL_isSound_L_item_p7 (goodIn_app ggL_isSound_L_item_p8 (goodIn_app ggL_isSound_L_item_p9 (goodIn_app ggL_isSound_L_item_p10 (goodIn_app ggL_isSound_L_item_p11 (goodIn_app ggL_isSound_L_item_p12 ggL_isSound_L_item_p13)))))))))))) ggL_isSound_L_item_p14) ggL_isSound_L_item_p15) ggL_isSound_L_item_p16) ggL_isSound_L_item_p17) ggL_isSound_L_item_p18) ggL_isSound_L_item_p19) ggL_isSound_L_item_p20) ggL_isSound_L_item_p21) ggL_isSound_L_item_p22) ggL_isSound_L_item_p23)) (goodIn_sub (fun _ h => List.mem_cons_of_mem _ (List.mem_append_left _ (List.mem_append_right _ h))) (by decide +kernel))) (goodIn_sub (fun _ h => List.mem_cons_of_mem _ (List.mem_append_left _ (List.mem_append_left _ (List.mem_append_left _ (List.mem_append_left _ (List.mem_append_right _ h)))))) (by decide +kernel))) (goodIn_sub (fun _ h => List.mem_cons_of_mem _ (List.mem_append_left _ (List.mem_append_left _ (List.mem_append_left _ (List.mem_append_right _ h))))) (by decide +kernel))
set_option maxRecDepth 20000 in
theorem gL_isSound_L_item : GoodIn wsL_isSound (va_wsS RL 123 yL_item wsL_item) := goodIn_app (goodIn_of _ (by decide +kernel)) ggL_isSound_L_item
set_option maxRecDepth 20000 in
theorem ggL_isSound_L_of_p0 : GoodIn wsL_isSound [.codeWith yL_of cL_of 4 (some .int) [(0, 33, 34, 50)]] := goodIn_r _ [351] (by decide +kernel) (by decide +kernel)
set_option maxRecDepth 20000 in
theorem ggL_isSound_L_of_p1 : GoodIn wsL_isSound wsL_of_r1 := goodIn_r _ [352, 353, 354, 355, 9, 356, 357, 358, 359, 17, 360, 361, 362, 49, 363, 51, 364, 53, 54, 55, 56, 57, 58, 59] (by decide +kernel) (by decide +kernel)
set_option maxRecDepth 20000 in
theorem ggL_isSound_L_of_p2 : GoodIn wsL_isSound wsL_of_r2 := goodIn_r _ [60, 61, 62, 63, 64, 65, 66, 67, 68, 69, 70, 71, 72, 73, 365, 366, 367, 368, 11, 12, 13, 14, 15, 16] (by decide +kernel) (by decide +kernel)
set_option maxRecDepth 20000 in
theorem ggL_isSound_L_of_p3 : GoodIn wsL_isSound wsL_of_r3 := goodIn_r _ [18, 19, 20, 21, 22, 23, 24, 25, 26, 27, 28, 29, 30, 31, 32, 33, 34, 35, 36, 37, 38, 39, 40, 41] (by decide +kernel) (by decide +kernel)
set_option maxRecDepth 20000 in
theorem ggL_isSound_L_of_p4 : GoodIn wsL_isSound wsL_of_r4 := goodIn_r _ [42, 43, 44, 45, 46, 47, 48, 50, 52, 74, 75, 76, 77, 78, 79, 80, 81, 82, 83, 84, 85, 86, 87, 88] (by decide +kernel) (by decide +kernel)
set_option maxRecDepth 20000 in
theorem ggL_isSound_L_of_p5 : GoodIn wsL_isSound wsL_of_r5 := goodIn_r _ [89, 90, 91, 92, 93, 94, 95, 96, 97, 98, 99, 100, 101, 102, 103, 104, 105, 106, 107, 108, 109, 110, 111, 112] (by decide +kernel) (by decide +kernel)
set_option maxRecDepth 20000 in
theorem ggL_isSound_L_of_p6 : GoodIn wsL_isSound wsL_of_r6 := goodIn_r _ [113, 114, 115, 116, 117, 118, 119, 120, 121, 122, 123, 124, 125, 126, 127, 128, 129, 130, 131, 132, 133, 134, 135, 136] (by decide +kernel) (by decide +kernel)
set_option maxRecDepth 20000 in
theorem ggL_isSound_L_of_p7 : GoodIn wsL_isSound wsL_of_r7 := goodIn_r _ [137, 138, 139, 140, 141, 142, 143, 144, 145, 146, 147, 4, 148, 149, 150, 151, 152, 153, 154, 155, 156, 157, 158, 159] (by decide +kernel) (by decide +kernel)
set_option maxRecDepth 20000 in
theorem ggL_isSound_L_of_p8 : GoodIn wsL_isSound wsL_of_r8 := goodIn_r _ [160, 161, 162, 163, 164, 165, 166, 167, 168, 169, 170, 171, 172, 173, 174, 175, 176, 177, 178, 179, 180, 181, 182, 183] (by decide +kernel) (by decide +kernel)
set_option maxRecDepth 20000 in
theorem ggL_isSound_L_of_p9 : GoodIn wsL_isSound wsL_of_r9 := goodIn_r _ [3, 5, 184, 185, 186, 187, 188, 189, 190, 191, 192, 193, 194, 195, 196, 197, 198, 199, 200, 201, 202, 203, 204, 205] (by decide +kernel) (by decide +kernel)
set_option maxRecDepth 20000 in
theorem ggL_isSound_L_of_p10 : GoodIn wsL_isSound wsL_of_r10 := goodIn_r _ [206, 207, 208, 209, 210, 211, 212, 213, 214, 215, 216, 217, 218, 219, 220, 221, 222, 223, 224, 225, 226, 227, 228, 229] (by decide +kernel) (by decide +kernel)
set_option maxRecDepth 20000 in
theorem ggL_isSound_L_of_p11 : GoodIn wsL_isSound wsL_of_r11 := goodIn_r _ [230, 231, 232, 233, 234, 235, 236, 237, 238, 239, 240, 241, 242, 243, 244, 245, 246, 247, 248, 249, 250, 251, 252, 253] (by decide +kernel) (by decide +kernel)
set_option maxRecDepth 20000 in
theorem ggL_isSound_L_of_p12 : GoodIn wsL_isSound wsL_of_r12 := goodIn_r _ [254, 255, 256, 257, 258, 259, 260, 261, 262, 263, 264, 265, 266, 267, 268, 269, 270, 271, 272, 273, 274, 275, 276, 277] (by decide +kernel) (by decide +kernel)
set_option maxRecDepth 20000 in
theorem ggL_isSound_L_of_p13 : GoodIn wsL_isSound wsL_of_r13 := goodIn_r _ [278, 279, 280, 281, 282, 283, 284, 285, 286, 287, 288, 289, 290, 291, 369, 370, 371, 372, 348, 373, 374, 375, 376, 377] (by decide +kernel) (by decide +kernel)
set_option maxRecDepth 20000 in
theorem ggL_isSound_L_of_p14 : GoodIn wsL_isSound wsL_of_r14 := goodIn_r _ [378, 379, 380, 381, 382, 383, 384] (by decide +kernel) (by decide +kernel)
set_option maxRecDepth 20000 in
theorem ggL_isSound_L_of_p15 : GoodIn wsL_isSound wsX110 := goodIn_r _ [408, 409, 410, 411, 412, 413, 414] (by decide +kernel) (by decide +kernel)
set_option maxRecDepth 20000 in
theorem ggL_isSound_L_of_p16 : GoodIn wsL_isSound wsX60 := goodIn_r _ [437, 438, 439, 440, 441, 442] (by decide +kernel) (by decide +kernel)
set_option maxRecDepth 20000 in
theorem ggL_isSound_L_of_p17 : GoodIn wsL_isSound wsX20 := goodIn_r _ [443, 444, 445, 446, 447, 448, 449, 450, 451] (by decide +kernel) (by decide +kernel)
set_option maxRecDepth 20000 in
theorem ggL_isSound_L_of_p18 : GoodIn wsL_isSound wsX30 := goodIn_r _ [452, 453, 454, 455] (by decide +kernel) (by decide +kernel)
set_option maxRecDepth 20000 in
theorem ggL_isSound_L_of_p19 : GoodIn wsL_isSound wsX70 := goodIn_r _ [456, 457, 458, 459] (by decide +kernel) (by decide +kernel)
set_option maxRecDepth 20000 in
theorem ggL_isSound_L_of_p20 : GoodIn wsL_isSound wsX90 := goodIn_r _ [460, 461, 462, 463] (by decide +kernel) (by decide +kernel)
set_option maxRecDepth 20000 in
theorem ggL_isSound_L_of_p21 : GoodIn wsL_isSound wsX80 := goodIn_r _ [415, 416, 417, 418, 419, 420, 421, 422, 423, 424, 425, 426] (by decide +kernel) (by decide +kernel)
set_option maxRecDepth 20000 in
theorem ggL_isSound_L_of_p22 : GoodIn wsL_isSound wsX100 := goodIn_r _ [427, 428, 429, 430, 431] (by decide +kernel) (by decide +kernel)
set_option maxRecDepth 20000 in
theorem ggL_isSound_L_of_p23 : GoodIn wsL_isSound wsX00 := goodIn_r _ [432, 433, 434, 435, 436] (by decide +kernel) (by decide +kernel)
set_option maxRecDepth 20000 in
theorem ggL_isSound_L_of_p24 : GoodIn wsL_isSound wsX10 := goodIn_r _ [464, 465, 466, 467] (by decide +kernel) (by decide +kernel)
set_option maxRecDepth 20000 in
theorem ggL_isSound_L_of : GoodIn wsL_isSound wsL_of := goodIn_ca (goodIn_ca (goodIn_ca (goodIn_app ggL_isSound_L_of_p0 (goodIn_app (goodIn_app (goodIn_app (goodIn_app (goodIn_app (goodIn_app (goodIn_app (goodIn_app (goodIn_app (goodIn_app (goodIn_app ggL_isSound_L_of_p1 (goodIn_app ggL_isSound_L_of_p2 (goodIn_app ggL_isSound_L_of_p3 (goodIn_app ggL_isSound_L_of_p4 (goodIn_app ggL_isSound_L_of_p5 (goodIn_app ggL_isSound_L_of_p6 (goodIn_app ggL_isSound_L_of_p7 (goodIn_app ggL_isSound_L_of_p8 (goodIn_app ggL_isSound_L_of_p9 (goodIn_app ggL_isSound_L_of_p10 (goodIn_app ggL_isSound_L_of_p11 (goodIn_app ggL_isSound_L_of_p12 (goodIn_app ggL_isSound_L_of_p13 ggL_isSound_L_of_p14))))))))))))) ggL_isSound_L_of_p15) ggL_isSound_L_of_p16) ggL_isSound_L_of_p17) ggL_isSound_L_of_p18) ggL_isSound_L_of_p19) ggL_isSound_L_of_p20) ggL_isSound_L_of_p21) ggL_isSound_L_of_p22) ggL_isSound_L_of_p23) ggL_isSound_L_of_p24)) (goodIn_sub (fun _ h => List.mem_cons_of_mem _ (List.mem_append_right _ h)) (by decide +kernel))) (goodIn_sub (fun _ h => List.mem_cons_of_mem _ (List.mem_append_left _ (List.mem_append_left _ (List.mem_append_left _ (List.mem_append_left _ (List.mem_append_right _ h)))))) (by decide +kernel))) (goodIn_sub (fun _ h => List.mem_cons_of_mem _ (List.mem_append_left _ (List.mem_append_left _ (List.mem_append_left _ (List.mem_append_right _ h))))) (by decide +kernel))
set_option maxRecDepth 20000 in
theorem gL_isSound_L_of : GoodIn wsL_isSound (va_wsS RL 115 yL_of wsL_of) := goodIn_app (goodIn_of _ (by decide +kernel)) ggL_isSound_L_of
set_option maxRecDepth 20000 in
theorem ggL_isSound_X11_offers : GoodIn wsL_isSound wsX11_offers := goodIn_r _ [388, 359, 389, 47, 48, 49, 50, 51, 408, 409, 410, 411, 412, 413, 414, 437, 438, 439, 440, 441, 442] (by decide +kernel) (by decide +kernel)
set_option maxRecDepth 20000 in
theorem gL_isSound_X11_offers : GoodIn wsL_isSound (wsV RL 96 RX11 yX11_offers wsX11_offers) := goodIn_app (goodIn_of _ (by decide +kernel)) ggL_isSound_X11_offers
set_option maxRecDepth 20000 in
theorem ggL_isSound_X11_items : GoodIn wsL_isSound wsX11_items := goodIn_r _ [393, 307, 308, 39, 40, 41, 42, 43, 408, 409, 410, 411, 412, 413, 414, 432, 433, 434, 435, 436] (by decide +kernel) (by decide +kernel)
set_option maxRecDepth 20000 in
theorem gL_isSound_X11_items : GoodIn wsL_isSound (wsV RL 86 RX11 yX11_items wsX11_items) := goodIn_app (goodIn_of _ (by decide +kernel)) ggL_isSound_X11_items
set_option maxRecDepth 20000 in
theorem ggL_isSound_X11_toPay_p0 : GoodIn wsL_isSound [.code yX11_toPay cX11_toPay 1 (some .int)] := goodIn_r _ [397] (by decide +kernel) (by decide +kernel)
set_option maxRecDepth 20000 in
theorem ggL_isSound_X11_toPay_p1 : GoodIn wsL_isSound wsX11_toPay_r1 := goodIn_r _ [18, 12, 13, 14, 9, 15, 16, 11, 17, 19, 20, 21, 22, 23, 24, 25, 26, 27, 28, 29, 30, 31, 32, 33] (by decide +kernel) (by decide +kernel)
set_option maxRecDepth 20000 in
theorem ggL_isSound_X11_toPay_p2 : GoodIn wsL_isSound wsX11_toPay_r2 := goodIn_r _ [34, 35, 36, 37, 38, 39, 40, 41, 42, 43, 44, 45, 46, 47, 48, 49, 50, 51, 52, 53, 54, 55, 56, 57] (by decide +kernel) (by decide +kernel)
set_option maxRecDepth 20000 in
theorem ggL_isSound_X11_toPay_p3 : GoodIn wsL_isSound wsX11_toPay_r3 := goodIn_r _ [58, 59, 60, 61, 62, 63, 64, 65, 66, 67, 68, 69, 70, 71, 72, 73, 74, 75, 76, 77, 78, 79, 80, 81] (by decide +kernel) (by decide +kernel)
set_option maxRecDepth 20000 in
theorem ggL_isSound_X11_toPay_p4 : GoodIn wsL_isSound wsX11_toPay_r4 := goodIn_r _ [82, 83, 84, 85, 86, 87, 88, 89, 90, 91, 92, 93, 94, 95, 96, 97, 98, 99, 100, 101, 102, 103, 104, 105] (by decide +kernel) (by decide +kernel)
set_option maxRecDepth 20000 in
theorem ggL_isSound_X11_toPay_p5 : GoodIn wsL_isSound wsX11_toPay_r5 := goodIn_r _ [106, 107, 108, 109, 110, 111, 112, 113, 114, 115, 116, 117, 118, 119, 120, 121, 122, 123, 124, 125, 126, 127, 128, 129] (by decide +kernel) (by decide +kernel)
set_option maxRecDepth 20000 in
theorem ggL_isSound_X11_toPay_p6 : GoodIn wsL_isSound wsX11_toPay_r6 := goodIn_r _ [130, 131, 132, 133, 134, 135, 136, 137, 138, 139, 140, 141, 142, 143, 144, 145, 146, 147, 4, 148, 149, 150, 151, 152] (by decide +kernel) (by decide +kernel)
set_option maxRecDepth 20000 in
theorem ggL_isSound_X11_toPay_p7 : GoodIn wsL_isSound wsX11_toPay_r7 := goodIn_r _ [153, 154, 155, 156, 157, 158, 159, 160, 161, 162, 163, 164, 165, 166, 167, 168, 169, 170, 171, 172, 173, 174, 175, 176] (by decide +kernel) (by decide +kernel)
set_option maxRecDepth 20000 in
theorem ggL_isSound_X11_toPay_p8 : GoodIn wsL_isSound wsX11_toPay_r8 := goodIn_r _ [177, 178, 179, 180, 181, 182, 183, 3, 5, 184, 185, 186, 187, 188, 189, 190, 191, 192, 193, 194, 195, 196, 197, 198] (by decide +kernel) (by decide +kernel)
set_option maxRecDepth 20000 in
theorem ggL_isSound_X11_toPay_p9 : GoodIn wsL_isSound wsX11_toPay_r9 := goodIn_r _ [199, 200, 201, 202, 203, 204, 205, 206, 207, 208, 209, 210, 211, 212, 213, 214, 215, 216, 217, 218, 219, 220, 221, 222] (by decide +kernel) (by decide +kernel)
set_option maxRecDepth 20000 in
theorem ggL_isSound_X11_toPay_p10 : GoodIn wsL_isSound wsX11_toPay_r10 := goodIn_r _ [223, 224, 225, 226, 227, 228, 229, 230, 231, 232, 233, 234, 235, 236, 237, 238, 239, 240, 241, 242, 243, 244, 245, 246] (by decide +kernel) (by decide +kernel)
set_option maxRecDepth 20000 in
theorem ggL_isSound_X11_toPay_p11 : GoodIn wsL_isSound wsX11_toPay_r11 := goodIn_r _ [247, 248, 249, 250, 251, 252, 253, 254, 255, 256, 257, 258, 259, 260, 261, 262, 263, 264, 265, 266, 267, 268, 269, 270] (by decide +kernel) (by decide +kernel)
set_option maxRecDepth 20000 in
theorem ggL_isSound_X11_toPay_p12 : GoodIn wsL_isSound wsX11_toPay_r12 := goodIn_r _ [271, 272, 273, 274, 275, 276, 277, 278, 279, 280, 281, 282, 283, 284, 285, 286, 287, 288, 289, 290, 291, 398, 399, 400] (by decide +kernel) (by decide +kernel)
set_option maxRecDepth 20000 in
theorem ggL_isSound_X11_toPay_p13 : GoodIn wsL_isSound wsX11_toPay_r13 := goodIn_r _ [401] (by decide +kernel) (by decide +kernel)
set_option maxRecDepth 20000 in
theorem ggL_isSound_X11_toPay_p14 : GoodIn wsL_isSound wsX110 := goodIn_r _ [408, 409, 410, 411, 412, 413, 414] (by decide +kernel) (by decide +kernel)
set_option maxRecDepth 20000 in
theorem ggL_isSound_X11_toPay_p15 : GoodIn wsL_isSound wsX80 := goodIn_r _ [415, 416, 417, 418, 419, 420, 421, 422, 423, 424, 425, 426] (by decide +kernel) (by decide +kernel)
set_option maxRecDepth 20000 in
theorem ggL_isSound_X11_toPay_p16 : GoodIn wsL_isSound wsX100 := goodIn_r _ [427, 428, 429, 430, 431] (by decide +kernel) (by decide +kernel)
set_option maxRecDepth 20000 in
theorem ggL_isSound_X11_toPay_p17 : GoodIn wsL_isSound wsX00 := goodIn_r _ [432, 433, 434, 435, 436] (by decide +kernel) (by decide +kernel)
set_option maxRecDepth 20000 in
theorem ggL_isSound_X11_toPay_p18 : GoodIn wsL_isSound wsX60 := goodIn_r _ [437, 438, 439, 440, 441, 442] (by decide +kernel) (by decide +kernel)
set_option maxRecDepth 20000 in
theorem ggL_isSound_X11_toPay_p19 : GoodIn wsL_isSound wsX20 := goodIn_r _ [443, 444, 445, 446, 447, 448, 449, 450, 451] (by decide +kernel) (by decide +kernel)
set_option maxRecDepth 20000 in
theorem ggL_isSound_X11_toPay_p20 : GoodIn wsL_isSound wsX30 := goodIn_r _ [452, 453, 454, 455] (by decide +kernel) (by decide +kernel)
set_option maxRecDepth 20000 in
theorem ggL_isSound_X11_toPay_p21 : GoodIn wsL_isSound wsX70 := goodIn_r _ [456, 457, 458, 459] (by decide +kernel) (by decide +kernel)
set_option maxRecDepth 20000 in
theorem ggL_isSound_X11_toPay_p22 : GoodIn wsL_isSound wsX90 := goodIn_r _ [460, 461, 462, 463] (by decide +kernel) (by decide +kernel)
set_option maxRecDepth 20000 in
theorem ggL_isSound_X11_toPay_p23 : GoodIn wsL_isSound wsX10 := goodIn_r _ [464, 465, 466, 467] (by decide +kernel) (by decide +kernel)
set_option maxRecDepth 20000 in
theorem ggL_isSound_X11_toPay : GoodIn wsL_isSound wsX11_toPay := goodIn_ca (goodIn_ca (goodIn_app ggL_isSound_X11_toPay_p0 (goodIn_app (goodIn_app (goodIn_app (goodIn_app (goodIn_app (goodIn_app (goodIn_app (goodIn_app (goodIn_app (goodIn_app (goodIn_app ggL_isSound_X11_toPay_p1 (goodIn_app ggL_isSound_X11_toPay_p2 (goodIn_app ggL_isSound_X11_toPay_p3 (goodIn_app ggL_isSound_X11_toPay_p4 (goodIn_app ggL_isSound_X11_toPay_p5 (goodIn_app ggL_isSound_X11_toPay_p6 (goodIn_app ggL_isSound_X11_toPay_p7 (goodIn_app ggL_isSound_X11_toPay_p8 (goodIn_app ggL_isSound_X11_toPay_p9 (goodIn_app ggL_isSound_X11_toPay_p10 (goodIn_app ggL_isSound_X11_toPay_p11 (goodIn_app ggL_isSound_X11_toPay_p12 ggL_isSound_X11_toPay_p13)))))))))))) ggL_isSound_X11_toPay_p14) ggL_isSound_X11_toPay_p15) ggL_isSound_X11_toPay_p16) ggL_isSound_X11_toPay_p17) ggL_isSound_X11_toPay_p18) ggL_isSound_X11_toPay_p19) ggL_isSound_X11_toPay_p20) ggL_isSound_X11_toPay_p21) ggL_isSound_X11_toPay_p22) ggL_isSound_X11_toPay_p23)) (goodIn_sub (fun _ h => List.mem_cons_of_mem _ (List.mem_append_left _ (List.mem_append_left _ (List.mem_append_left _ (List.mem_append_left _ (List.mem_append_right _ h)))))) (by decide +kernel))) (goodIn_sub (fun _ h => List.mem_cons_of_mem _ (List.mem_append_left _ (List.mem_append_left _ (List.mem_append_left _ (List.mem_append_right _ h))))) (by decide +kernel))
set_option maxRecDepth 20000 in
theorem gL_isSound_X11_toPay : GoodIn wsL_isSound (wsV RL 135 RX11 yX11_toPay wsX11_toPay) := goodIn_app (goodIn_of _ (by decide +kernel)) ggL_isSound_X11_toPay
set_option maxRecDepth 20000 in
theorem ggL_isSound_X11_sum : GoodIn wsL_isSound wsX11_sum := goodIn_ca (goodIn_r _ [405, 307, 406, 82, 83, 41, 84, 43, 79, 9, 80, 407, 132, 133, 134, 135, 129, 130, 72, 73, 408, 409, 410, 411, 412, 413, 414, 432, 433, 434, 435, 436] (by decide +kernel) (by decide +kernel)) (goodIn_sub (fun _ h => List.mem_cons_of_mem _ (List.mem_append_left _ (List.mem_append_left _ (List.mem_append_left _ (List.mem_append_left _ (List.mem_append_right _ h)))))) (by decide +kernel))
set_option maxRecDepth 20000 in
theorem gL_isSound_X11_sum : GoodIn wsL_isSound (wsV RL 91 RX11 yX11_sum wsX11_sum) := goodIn_app (goodIn_of _ (by decide +kernel)) ggL_isSound_X11_sum
theorem dL_isSound_0 : decode cL_isSound 0 = .ok (.iconst 0, 1) := by decide +kernel
theorem dL_isSound_1 : decode cL_isSound 1 = .ok (.istore_n 3, 1) := by decide +kernel
theorem dL_isSound_2 : decode cL_isSound 2 = .ok (.aload_n 0, 1) := by decide +kernel
theorem dL_isSound_3 : decode cL_isSound 3 = .ok (.invokevirtual 112, 3) := by decide +kernel
theorem dL_isSound_6 : decode cL_isSound 6 = .ok (.istore 4, 2) := by decide +kernel
theorem dL_isSound_8 : decode cL_isSound 8 = .ok (.aload_n 0, 1) := by decide +kernel
theorem dL_isSound_9 : decode cL_isSound 9 = .ok (.invokestatic 131, 3) := by decide +kernel
theorem dL_isSound_12 : decode cL_isSound 12 = .ok (.istore 5, 2) := by decide +kernel
theorem dL_isSound_14 : decode cL_isSound 14 = .ok (.iconst 0, 1) := by decide +kernel
theorem dL_isSound_15 : decode cL_isSound 15 = .ok (.istore 6, 2) := by decide +kernel
theorem dL_isSound_17 : decode cL_isSound 17 = .ok (.iconst 0, 1) := by decide +kernel
theorem dL_isSound_18 : decode cL_isSound 18 = .ok (.istore 7, 2) := by decide +kernel
theorem dL_isSound_20 : decode cL_isSound 20 = .ok (.iload 7, 2) := by decide +kernel
theorem dL_isSound_22 : decode cL_isSound 22 = .ok (.iload_n 1, 1) := by decide +kernel
theorem dL_isSound_23 : decode cL_isSound 23 = .ok (.if_icmp .ge 70, 3) := by decide +kernel
theorem dL_isSound_26 : decode cL_isSound 26 = .ok (.aload_n 0, 1) := by decide +kernel
theorem dL_isSound_27 : decode cL_isSound 27 = .ok (.iload 7, 2) := by decide +kernel
theorem dL_isSound_29 : decode cL_isSound 29 = .ok (.iconst 1, 1) := by decide +kernel
theorem dL_isSound_30 : decode cL_isSound 30 = .ok (.invokestatic 123, 3) := by decide +kernel
theorem dL_isSound_33 : decode cL_isSound 33 = .ok (.istore 8, 2) := by decide +kernel
theorem dL_isSound_35 : decode cL_isSound 35 = .ok (.iload 8, 2) := by decide +kernel
theorem dL_isSound_37 : decode cL_isSound 37 = .ok (.sipush (-1001), 3) := by decide +kernel
theorem dL_isSound_40 : decode cL_isSound 40 = .ok (.if_icmp .ne 6, 3) := by decide +kernel
theorem dL_isSound_43 : decode cL_isSound 43 = .ok (.goto 44, 3) := by decide +kernel
theorem dL_isSound_46 : decode cL_isSound 46 = .ok (.iinc 6 1, 3) := by decide +kernel
theorem dL_isSound_49 : decode cL_isSound 49 = .ok (.aload_n 0, 1) := by decide +kernel
theorem dL_isSound_50 : decode cL_isSound 50 = .ok (.iload 7, 2) := by decide +kernel
theorem dL_isSound_52 : decode cL_isSound 52 = .ok (.iconst 0, 1) := by decide +kernel
theorem dL_isSound_53 : decode cL_isSound 53 = .ok (.invokestatic 123, 3) := by decide +kernel
theorem dL_isSound_56 : decode cL_isSound 56 = .ok (.istore 9, 2) := by decide +kernel
theorem dL_isSound_58 : decode cL_isSound 58 = .ok (.iload 8, 2) := by decide +kernel
theorem dL_isSound_60 : decode cL_isSound 60 = .ok (.ifCond .lt 20, 3) := by decide +kernel
theorem dL_isSound_63 : decode cL_isSound 63 = .ok (.iload 9, 2) := by decide +kernel
theorem dL_isSound_65 : decode cL_isSound 65 = .ok (.ifCond .lt 17, 3) := by decide +kernel
theorem dL_isSound_68 : decode cL_isSound 68 = .ok (.aload_n 0, 1) := by decide +kernel
theorem dL_isSound_69 : decode cL_isSound 69 = .ok (.iload 9, 2) := by decide +kernel
theorem dL_isSound_71 : decode cL_isSound 71 = .ok (.bipush 117, 2) := by decide +kernel
theorem dL_isSound_73 : decode cL_isSound 73 = .ok (.invokestatic 115, 3) := by decide +kernel
theorem dL_isSound_76 : decode cL_isSound 76 = .ok (.iconst 1, 1) := by decide +kernel
theorem dL_isSound_77 : decode cL_isSound 77 = .ok (.if_icmp .ge 5, 3) := by decide +kernel
theorem dL_isSound_80 : decode cL_isSound 80 = .ok (.iconst 0, 1) := by decide +kernel
theorem dL_isSound_81 : decode cL_isSound 81 = .ok (.ireturn, 1) := by decide +kernel
theorem dL_isSound_82 : decode cL_isSound 82 = .ok (.iload_n 3, 1) := by decide +kernel
theorem dL_isSound_83 : decode cL_isSound 83 = .ok (.iload 8, 2) := by decide +kernel
theorem dL_isSound_85 : decode cL_isSound 85 = .ok (.iadd, 1) := by decide +kernel
theorem dL_isSound_86 : decode cL_isSound 86 = .ok (.istore_n 3, 1) := by decide +kernel
theorem dL_isSound_87 : decode cL_isSound 87 = .ok (.iinc 7 1, 3) := by decide +kernel
theorem dL_isSound_90 : decode cL_isSound 90 = .ok (.goto (-70), 3) := by decide +kernel
theorem dL_isSound_93 : decode cL_isSound 93 = .ok (.iconst 4, 1) := by decide +kernel
theorem dL_isSound_94 : decode cL_isSound 94 = .ok (.newarray .int, 2) := by decide +kernel
theorem dL_isSound_96 : decode cL_isSound 96 = .ok (.dup, 1) := by decide +kernel
theorem dL_isSound_97 : decode cL_isSound 97 = .ok (.iconst 0, 1) := by decide +kernel
theorem dL_isSound_98 : decode cL_isSound 98 = .ok (.iconst 0, 1) := by decide +kernel
theorem dL_isSound_99 : decode cL_isSound 99 = .ok (.iastore, 1) := by decide +kernel
theorem dL_isSound_100 : decode cL_isSound 100 = .ok (.dup, 1) := by decide +kernel
theorem dL_isSound_101 : decode cL_isSound 101 = .ok (.iconst 1, 1) := by decide +kernel
theorem dL_isSound_102 : decode cL_isSound 102 = .ok (.iconst 0, 1) := by decide +kernel
theorem dL_isSound_103 : decode cL_isSound 103 = .ok (.iastore, 1) := by decide +kernel
theorem dL_isSound_104 : decode cL_isSound 104 = .ok (.dup, 1) := by decide +kernel
theorem dL_isSound_105 : decode cL_isSound 105 = .ok (.iconst 2, 1) := by decide +kernel
theorem dL_isSound_106 : decode cL_isSound 106 = .ok (.iconst 0, 1) := by decide +kernel
theorem dL_isSound_107 : decode cL_isSound 107 = .ok (.iastore, 1) := by decide +kernel
theorem dL_isSound_108 : decode cL_isSound 108 = .ok (.dup, 1) := by decide +kernel
theorem dL_isSound_109 : decode cL_isSound 109 = .ok (.iconst 3, 1) := by decide +kernel
theorem dL_isSound_110 : decode cL_isSound 110 = .ok (.iconst 0, 1) := by decide +kernel
theorem dL_isSound_111 : decode cL_isSound 111 = .ok (.iastore, 1) := by decide +kernel
theorem dL_isSound_112 : decode cL_isSound 112 = .ok (.astore 7, 2) := by decide +kernel
theorem dL_isSound_114 : decode cL_isSound 114 = .ok (.iconst 0, 1) := by decide +kernel
theorem dL_isSound_115 : decode cL_isSound 115 = .ok (.istore 8, 2) := by decide +kernel
theorem dL_isSound_117 : decode cL_isSound 117 = .ok (.iload 8, 2) := by decide +kernel
theorem dL_isSound_119 : decode cL_isSound 119 = .ok (.aload_n 0, 1) := by decide +kernel
theorem dL_isSound_120 : decode cL_isSound 120 = .ok (.invokevirtual 96, 3) := by decide +kernel
theorem dL_isSound_123 : decode cL_isSound 123 = .ok (.if_icmp .ge 112, 3) := by decide +kernel
theorem dL_isSound_126 : decode cL_isSound 126 = .ok (.aload_n 0, 1) := by decide +kernel
theorem dL_isSound_127 : decode cL_isSound 127 = .ok (.iload 8, 2) := by decide +kernel
theorem dL_isSound_129 : decode cL_isSound 129 = .ok (.bipush 117, 2) := by decide +kernel
theorem dL_isSound_131 : decode cL_isSound 131 = .ok (.invokestatic 115, 3) := by decide +kernel
theorem dL_isSound_134 : decode cL_isSound 134 = .ok (.istore 9, 2) := by decide +kernel
theorem dL_isSound_136 : decode cL_isSound 136 = .ok (.iload 9, 2) := by decide +kernel
theorem dL_isSound_138 : decode cL_isSound 138 = .ok (.aload_n 0, 1) := by decide +kernel
theorem dL_isSound_139 : decode cL_isSound 139 = .ok (.iload 8, 2) := by decide +kernel
theorem dL_isSound_141 : decode cL_isSound 141 = .ok (.bipush 108, 2) := by decide +kernel
theorem dL_isSound_143 : decode cL_isSound 143 = .ok (.invokestatic 115, 3) := by decide +kernel
theorem dL_isSound_146 : decode cL_isSound 146 = .ok (.if_icmp .gt 58, 3) := by decide +kernel
theorem dL_isSound_149 : decode cL_isSound 149 = .ok (.iload 9, 2) := by decide +kernel
theorem dL_isSound_151 : decode cL_isSound 151 = .ok (.ifCond .le 7, 3) := by decide +kernel
theorem dL_isSound_154 : decode cL_isSound 154 = .ok (.iconst 1, 1) := by decide +kernel
theorem dL_isSound_155 : decode cL_isSound 155 = .ok (.goto 4, 3) := by decide +kernel
theorem dL_isSound_158 : decode cL_isSound 158 = .ok (.iconst 0, 1) := by decide +kernel
theorem dL_isSound_159 : decode cL_isSound 159 = .ok (.aload_n 0, 1) := by decide +kernel
theorem dL_isSound_160 : decode cL_isSound 160 = .ok (.iload 8, 2) := by decide +kernel
theorem dL_isSound_162 : decode cL_isSound 162 = .ok (.bipush 114, 2) := by decide +kernel
theorem dL_isSound_164 : decode cL_isSound 164 = .ok (.invokestatic 115, 3) := by decide +kernel
theorem dL_isSound_167 : decode cL_isSound 167 = .ok (.bipush 117, 2) := by decide +kernel
theorem dL_isSound_169 : decode cL_isSound 169 = .ok (.if_icmp .ne 7, 3) := by decide +kernel
theorem dL_isSound_172 : decode cL_isSound 172 = .ok (.iconst 1, 1) := by decide +kernel
theorem dL_isSound_173 : decode cL_isSound 173 = .ok (.goto 4, 3) := by decide +kernel
theorem dL_isSound_176 : decode cL_isSound 176 = .ok (.iconst 0, 1) := by decide +kernel
theorem dL_isSound_177 : decode cL_isSound 177 = .ok (.if_icmp .ne 27, 3) := by decide +kernel
theorem dL_isSound_180 : decode cL_isSound 180 = .ok (.aload_n 0, 1) := by decide +kernel
theorem dL_isSound_181 : decode cL_isSound 181 = .ok (.iload 8, 2) := by decide +kernel
theorem dL_isSound_183 : decode cL_isSound 183 = .ok (.bipush 114, 2) := by decide +kernel
theorem dL_isSound_185 : decode cL_isSound 185 = .ok (.invokestatic 115, 3) := by decide +kernel
theorem dL_isSound_188 : decode cL_isSound 188 = .ok (.bipush 108, 2) := by decide +kernel
theorem dL_isSound_190 : decode cL_isSound 190 = .ok (.if_icmp .ne 16, 3) := by decide +kernel
theorem dL_isSound_193 : decode cL_isSound 193 = .ok (.aload_n 0, 1) := by decide +kernel
theorem dL_isSound_194 : decode cL_isSound 194 = .ok (.iload 8, 2) := by decide +kernel
theorem dL_isSound_196 : decode cL_isSound 196 = .ok (.bipush 108, 2) := by decide +kernel
theorem dL_isSound_198 : decode cL_isSound 198 = .ok (.invokestatic 115, 3) := by decide +kernel
theorem dL_isSound_201 : decode cL_isSound 201 = .ok (.ifCond .eq 5, 3) := by decide +kernel
theorem dL_isSound_204 : decode cL_isSound 204 = .ok (.iconst 0, 1) := by decide +kernel
theorem dL_isSound_205 : decode cL_isSound 205 = .ok (.ireturn, 1) := by decide +kernel
theorem dL_isSound_206 : decode cL_isSound 206 = .ok (.iload 9, 2) := by decide +kernel
theorem dL_isSound_208 : decode cL_isSound 208 = .ok (.ifCond .le 21, 3) := by decide +kernel
theorem dL_isSound_211 : decode cL_isSound 211 = .ok (.aload_n 2, 1) := by decide +kernel
theorem dL_isSound_212 : decode cL_isSound 212 = .ok (.iload 8, 2) := by decide +kernel
theorem dL_isSound_214 : decode cL_isSound 214 = .ok (.iaload, 1) := by decide +kernel
theorem dL_isSound_215 : decode cL_isSound 215 = .ok (.ifCond .lt 14, 3) := by decide +kernel
theorem dL_isSound_218 : decode cL_isSound 218 = .ok (.aload 7, 2) := by decide +kernel
theorem dL_isSound_220 : decode cL_isSound 220 = .ok (.aload_n 2, 1) := by decide +kernel
theorem dL_isSound_221 : decode cL_isSound 221 = .ok (.iload 8, 2) := by decide +kernel
theorem dL_isSound_223 : decode cL_isSound 223 = .ok (.iaload, 1) := by decide +kernel
theorem dL_isSound_224 : decode cL_isSound 224 = .ok (.dup2, 1) := by decide +kernel
theorem dL_isSound_225 : decode cL_isSound 225 = .ok (.iaload, 1) := by decide +kernel
theorem dL_isSound_226 : decode cL_isSound 226 = .ok (.iconst 1, 1) := by decide +kernel
theorem dL_isSound_227 : decode cL_isSound 227 = .ok (.iadd, 1) := by decide +kernel
theorem dL_isSound_228 : decode cL_isSound 228 = .ok (.iastore, 1) := by decide +kernel
theorem dL_isSound_229 : decode cL_isSound 229 = .ok (.iinc 8 1, 3) := by decide +kernel
