theorem dL_setCustomer_9 : decode cL_setCustomer 9 = .ok (.goto 6, 3) := by decide +kernel
theorem dL_setCustomer_12 : decode cL_setCustomer 12 = .ok (.astore_n 3, 1) := by decide +kernel
theorem dL_setCustomer_13 : decode cL_setCustomer 13 = .ok (.iconst 1, 1) := by decide +kernel
theorem dL_setCustomer_14 : decode cL_setCustomer 14 = .ok (.ireturn, 1) := by decide +kernel
theorem dL_setCustomer_15 : decode cL_setCustomer 15 = .ok (.iconst 0, 1) := by decide +kernel
theorem dL_setCustomer_16 : decode cL_setCustomer 16 = .ok (.ireturn, 1) := by decide +kernel
set_option maxRecDepth 20000 in
theorem ggL_addPercentage_X11_addPercentage_p0 : GoodIn wsL_addPercentage [.code yX11_addPercentage cX11_addPercentage 5 (some .int)] := goodIn_r _ [7] (by decide +kernel) (by decide +kernel)
set_option maxRecDepth 20000 in
theorem ggL_addPercentage_X11_addPercentage_p1 : GoodIn wsL_addPercentage wsX11_addPercentage_r1 := goodIn_r _ [8, 9, 10, 11, 12, 13, 14, 15, 16, 17, 6, 18, 19, 20, 21, 22, 23, 24, 25, 26, 27, 28, 29, 30] (by decide +kernel) (by decide +kernel)
set_option maxRecDepth 20000 in
theorem ggL_addPercentage_X11_addPercentage_p2 : GoodIn wsL_addPercentage wsX11_addPercentage_r2 := goodIn_r _ [31, 32, 33, 34, 35, 36, 37, 38, 39, 40, 41, 42, 43, 44, 45, 46, 47, 48, 49, 50, 51, 52, 53, 54] (by decide +kernel) (by decide +kernel)
set_option maxRecDepth 20000 in
theorem ggL_addPercentage_X11_addPercentage_p3 : GoodIn wsL_addPercentage wsX11_addPercentage_r3 := goodIn_r _ [55, 56, 57, 58, 59, 60, 61, 62, 63, 64, 65, 66, 67, 68, 69, 70, 71, 72, 73, 74, 75, 76, 77, 78] (by decide +kernel) (by decide +kernel)
set_option maxRecDepth 20000 in
theorem ggL_addPercentage_X11_addPercentage_p4 : GoodIn wsL_addPercentage wsX11_addPercentage_r4 := goodIn_r _ [79, 80, 81, 82, 83, 84, 85, 86, 87, 88, 89, 90, 91] (by decide +kernel) (by decide +kernel)
set_option maxRecDepth 20000 in
theorem ggL_addPercentage_X11_addPercentage_p5 : GoodIn wsL_addPercentage wsX110 := goodIn_r _ [92, 93, 94, 95, 96, 97, 98] (by decide +kernel) (by decide +kernel)
set_option maxRecDepth 20000 in
theorem ggL_addPercentage_X11_addPercentage_p6 : GoodIn wsL_addPercentage wsX70 := goodIn_r _ [99, 100, 101, 102] (by decide +kernel) (by decide +kernel)
set_option maxRecDepth 20000 in
theorem ggL_addPercentage_X11_addPercentage_p7 : GoodIn wsL_addPercentage wsX60 := goodIn_r _ [103, 104, 105, 106, 107, 108] (by decide +kernel) (by decide +kernel)
set_option maxRecDepth 20000 in
theorem ggL_addPercentage_X11_addPercentage_p8 : GoodIn wsL_addPercentage wsX20 := goodIn_r _ [109, 110, 111, 112, 113, 114, 115, 116, 117] (by decide +kernel) (by decide +kernel)
set_option maxRecDepth 20000 in
theorem ggL_addPercentage_X11_addPercentage_p9 : GoodIn wsL_addPercentage wsX30 := goodIn_r _ [118, 119, 120, 121] (by decide +kernel) (by decide +kernel)
set_option maxRecDepth 20000 in
theorem ggL_addPercentage_X11_addPercentage_p10 : GoodIn wsL_addPercentage wsX90 := goodIn_r _ [122, 123, 124, 125] (by decide +kernel) (by decide +kernel)
set_option maxRecDepth 20000 in
theorem ggL_addPercentage_X11_addPercentage : GoodIn wsL_addPercentage wsX11_addPercentage := goodIn_ca (goodIn_ca (goodIn_ca (goodIn_app ggL_addPercentage_X11_addPercentage_p0 (goodIn_app (goodIn_app (goodIn_app (goodIn_app (goodIn_app (goodIn_app (goodIn_app ggL_addPercentage_X11_addPercentage_p1 (goodIn_app ggL_addPercentage_X11_addPercentage_p2 (goodIn_app ggL_addPercentage_X11_addPercentage_p3 ggL_addPercentage_X11_addPercentage_p4))) ggL_addPercentage_X11_addPercentage_p5) ggL_addPercentage_X11_addPercentage_p6) ggL_addPercentage_X11_addPercentage_p7) ggL_addPercentage_X11_addPercentage_p8) ggL_addPercentage_X11_addPercentage_p9) ggL_addPercentage_X11_addPercentage_p10)) (goodIn_sub (fun _ h => List.mem_cons_of_mem _ (List.mem_append_left _ (List.mem_append_right _ h))) (by decide +kernel))) (goodIn_sub (fun _ h => List.mem_cons_of_mem _ (List.mem_append_right _ h)) (by decide +kernel))) (goodIn_sub (fun _ h => List.mem_cons_of_mem _ (List.mem_append_left _ (List.mem_append_left _ (List.mem_append_right _ h)))) (by decide +kernel))
set_option maxRecDepth 20000 in
theorem gL_addPercentage_X11_addPercentage : GoodIn wsL_addPercentage (wsV RL 26 RX11 yX11_addPercentage wsX11_addPercentage) := goodIn_app (goodIn_of _ (by decide +kernel)) ggL_addPercentage_X11_addPercentage
theorem dL_addPercentage_0 : decode cL_addPercentage 0 = .ok (.aload 5, 2) := by decide +kernel
theorem dL_addPercentage_2 : decode cL_addPercentage 2 = .ok (.iconst 0, 1) := by decide +kernel
theorem dL_addPercentage_3 : decode cL_addPercentage 3 = .ok (.aload_n 0, 1) := by decide +kernel
theorem dL_addPercentage_4 : decode cL_addPercentage 4 = .ok (.iload_n 1, 1) := by decide +kernel
theorem dL_addPercentage_5 : decode cL_addPercentage 5 = .ok (.iload_n 2, 1) := by decide +kernel
theorem dL_addPercentage_6 : decode cL_addPercentage 6 = .ok (.iload_n 3, 1) := by decide +kernel
theorem dL_addPercentage_7 : decode cL_addPercentage 7 = .ok (.iload 4, 2) := by decide +kernel
theorem dL_addPercentage_9 : decode cL_addPercentage 9 = .ok (.invokevirtual 26, 3) := by decide +kernel
theorem dL_addPercentage_12 : decode cL_addPercentage 12 = .ok (.i2l, 1) := by decide +kernel
theorem dL_addPercentage_13 : decode cL_addPercentage 13 = .ok (.lastore, 1) := by decide +kernel
theorem dL_addPercentage_14 : decode cL_addPercentage 14 = .ok (.goto 11, 3) := by decide +kernel
theorem dL_addPercentage_17 : decode cL_addPercentage 17 = .ok (.astore 6, 2) := by decide +kernel
theorem dL_addPercentage_19 : decode cL_addPercentage 19 = .ok (.iconst 1, 1) := by decide +kernel
theorem dL_addPercentage_20 : decode cL_addPercentage 20 = .ok (.ireturn, 1) := by decide +kernel
theorem dL_addPercentage_21 : decode cL_addPercentage 21 = .ok (.astore 6, 2) := by decide +kernel
theorem dL_addPercentage_23 : decode cL_addPercentage 23 = .ok (.iconst 2, 1) := by decide +kernel
theorem dL_addPercentage_24 : decode cL_addPercentage 24 = .ok (.ireturn, 1) := by decide +kernel
theorem dL_addPercentage_25 : decode cL_addPercentage 25 = .ok (.iconst 0, 1) := by decide +kernel
theorem dL_addPercentage_26 : decode cL_addPercentage 26 = .ok (.ireturn, 1) := by decide +kernel
set_option maxRecDepth 20000 in
theorem ggL_addFreeItem_X11_addFreeItem_p0 : GoodIn wsL_addFreeItem [.code yX11_addFreeItem cX11_addFreeItem 5 (some .int)] := goodIn_r _ [7] (by decide +kernel) (by decide +kernel)
set_option maxRecDepth 20000 in
theorem ggL_addFreeItem_X11_addFreeItem_p1 : GoodIn wsL_addFreeItem wsX11_addFreeItem_r1 := goodIn_r _ [8, 9, 10, 11, 12, 13, 14, 15, 16, 17, 6, 18, 19, 20, 21, 22, 23, 24, 25, 26, 27, 28, 29, 30] (by decide +kernel) (by decide +kernel)
set_option maxRecDepth 20000 in
theorem ggL_addFreeItem_X11_addFreeItem_p2 : GoodIn wsL_addFreeItem wsX11_addFreeItem_r2 := goodIn_r _ [31, 32, 33, 34, 35, 36, 37, 38, 39, 40, 41, 42, 43, 44, 45, 46, 47, 48, 49, 50, 51, 52, 53, 54] (by decide +kernel) (by decide +kernel)
set_option maxRecDepth 20000 in
theorem ggL_addFreeItem_X11_addFreeItem_p3 : GoodIn wsL_addFreeItem wsX11_addFreeItem_r3 := goodIn_r _ [55, 56, 57, 58, 59, 60, 61, 62, 63, 64, 65, 66, 67, 68, 69, 70, 71, 72, 73, 74, 75, 76, 77, 78] (by decide +kernel) (by decide +kernel)
set_option maxRecDepth 20000 in
theorem ggL_addFreeItem_X11_addFreeItem_p4 : GoodIn wsL_addFreeItem wsX11_addFreeItem_r4 := goodIn_r _ [79, 80, 81, 82, 83, 84, 85, 86, 87, 88, 89, 90, 91] (by decide +kernel) (by decide +kernel)
set_option maxRecDepth 20000 in
theorem ggL_addFreeItem_X11_addFreeItem_p5 : GoodIn wsL_addFreeItem wsX110 := goodIn_r _ [92, 93, 94, 95, 96, 97, 98] (by decide +kernel) (by decide +kernel)
set_option maxRecDepth 20000 in
theorem ggL_addFreeItem_X11_addFreeItem_p6 : GoodIn wsL_addFreeItem wsX30 := goodIn_r _ [99, 100, 101, 102] (by decide +kernel) (by decide +kernel)
set_option maxRecDepth 20000 in
theorem ggL_addFreeItem_X11_addFreeItem_p7 : GoodIn wsL_addFreeItem wsX60 := goodIn_r _ [103, 104, 105, 106, 107, 108] (by decide +kernel) (by decide +kernel)
set_option maxRecDepth 20000 in
theorem ggL_addFreeItem_X11_addFreeItem_p8 : GoodIn wsL_addFreeItem wsX20 := goodIn_r _ [109, 110, 111, 112, 113, 114, 115, 116, 117] (by decide +kernel) (by decide +kernel)
set_option maxRecDepth 20000 in
theorem ggL_addFreeItem_X11_addFreeItem_p9 : GoodIn wsL_addFreeItem wsX70 := goodIn_r _ [118, 119, 120, 121] (by decide +kernel) (by decide +kernel)
set_option maxRecDepth 20000 in
theorem ggL_addFreeItem_X11_addFreeItem_p10 : GoodIn wsL_addFreeItem wsX90 := goodIn_r _ [122, 123, 124, 125] (by decide +kernel) (by decide +kernel)
set_option maxRecDepth 20000 in
theorem ggL_addFreeItem_X11_addFreeItem : GoodIn wsL_addFreeItem wsX11_addFreeItem := goodIn_ca (goodIn_ca (goodIn_ca (goodIn_app ggL_addFreeItem_X11_addFreeItem_p0 (goodIn_app (goodIn_app (goodIn_app (goodIn_app (goodIn_app (goodIn_app (goodIn_app ggL_addFreeItem_X11_addFreeItem_p1 (goodIn_app ggL_addFreeItem_X11_addFreeItem_p2 (goodIn_app ggL_addFreeItem_X11_addFreeItem_p3 ggL_addFreeItem_X11_addFreeItem_p4))) ggL_addFreeItem_X11_addFreeItem_p5) ggL_addFreeItem_X11_addFreeItem_p6) ggL_addFreeItem_X11_addFreeItem_p7) ggL_addFreeItem_X11_addFreeItem_p8) ggL_addFreeItem_X11_addFreeItem_p9) ggL_addFreeItem_X11_addFreeItem_p10)) (goodIn_sub (fun _ h => List.mem_cons_of_mem _ (List.mem_append_left _ (List.mem_append_right _ h))) (by decide +kernel))) (goodIn_sub (fun _ h => List.mem_cons_of_mem _ (List.mem_append_right _ h)) (by decide +kernel))) (goodIn_sub (fun _ h => List.mem_cons_of_mem _ (List.mem_append_left _ (List.mem_append_left _ (List.mem_append_right _ h)))) (by decide +kernel))
set_option maxRecDepth 20000 in
theorem gL_addFreeItem_X11_addFreeItem : GoodIn wsL_addFreeItem (wsV RL 30 RX11 yX11_addFreeItem wsX11_addFreeItem) := goodIn_app (goodIn_of _ (by decide +kernel)) ggL_addFreeItem_X11_addFreeItem
theorem dL_addFreeItem_0 : decode cL_addFreeItem 0 = .ok (.aload 5, 2) := by decide +kernel
theorem dL_addFreeItem_2 : decode cL_addFreeItem 2 = .ok (.iconst 0, 1) := by decide +kernel
theorem dL_addFreeItem_3 : decode cL_addFreeItem 3 = .ok (.aload_n 0, 1) := by decide +kernel
theorem dL_addFreeItem_4 : decode cL_addFreeItem 4 = .ok (.iload_n 1, 1) := by decide +kernel
theorem dL_addFreeItem_5 : decode cL_addFreeItem 5 = .ok (.iload_n 2, 1) := by decide +kernel
theorem dL_addFreeItem_6 : decode cL_addFreeItem 6 = .ok (.iload_n 3, 1) := by decide +kernel
theorem dL_addFreeItem_7 : decode cL_addFreeItem 7 = .ok (.iload 4, 2) := by decide +kernel
theorem dL_addFreeItem_9 : decode cL_addFreeItem 9 = .ok (.invokevirtual 30, 3) := by decide +kernel
theorem dL_addFreeItem_12 : decode cL_addFreeItem 12 = .ok (.i2l, 1) := by decide +kernel
theorem dL_addFreeItem_13 : decode cL_addFreeItem 13 = .ok (.lastore, 1) := by decide +kernel
theorem dL_addFreeItem_14 : decode cL_addFreeItem 14 = .ok (.goto 11, 3) := by decide +kernel
theorem dL_addFreeItem_17 : decode cL_addFreeItem 17 = .ok (.astore 6, 2) := by decide +kernel
theorem dL_addFreeItem_19 : decode cL_addFreeItem 19 = .ok (.iconst 1, 1) := by decide +kernel
theorem dL_addFreeItem_20 : decode cL_addFreeItem 20 = .ok (.ireturn, 1) := by decide +kernel
theorem dL_addFreeItem_21 : decode cL_addFreeItem 21 = .ok (.astore 6, 2) := by decide +kernel
theorem dL_addFreeItem_23 : decode cL_addFreeItem 23 = .ok (.iconst 2, 1) := by decide +kernel
theorem dL_addFreeItem_24 : decode cL_addFreeItem 24 = .ok (.ireturn, 1) := by decide +kernel
theorem dL_addFreeItem_25 : decode cL_addFreeItem 25 = .ok (.iconst 0, 1) := by decide +kernel
theorem dL_addFreeItem_26 : decode cL_addFreeItem 26 = .ok (.ireturn, 1) := by decide +kernel
set_option maxRecDepth 20000 in
theorem ggL_addBundle_X11_addBundle_p0 : GoodIn wsL_addBundle [.code yX11_addBundle cX11_addBundle 7 (some .int)] := goodIn_r _ [7] (by decide +kernel) (by decide +kernel)
set_option maxRecDepth 20000 in
theorem ggL_addBundle_X11_addBundle_p1 : GoodIn wsL_addBundle wsX11_addBundle_r1 := goodIn_r _ [8, 9, 10, 11, 12, 13, 14, 15, 16, 17, 6, 18, 19, 20, 21, 22, 23, 24, 25, 26, 27, 28, 29, 30] (by decide +kernel) (by decide +kernel)
set_option maxRecDepth 20000 in
theorem ggL_addBundle_X11_addBundle_p2 : GoodIn wsL_addBundle wsX11_addBundle_r2 := goodIn_r _ [31, 32, 33, 34, 35, 36, 37, 38, 39, 40, 41, 42, 43, 44, 45, 46, 47, 48, 49, 50, 51, 52, 53, 54] (by decide +kernel) (by decide +kernel)
set_option maxRecDepth 20000 in
theorem ggL_addBundle_X11_addBundle_p3 : GoodIn wsL_addBundle wsX11_addBundle_r3 := goodIn_r _ [55, 56, 57, 58, 59, 60, 61, 62, 63, 64, 65, 66, 67, 68, 69, 70, 71, 72, 73, 74, 75, 76, 77, 78] (by decide +kernel) (by decide +kernel)
set_option maxRecDepth 20000 in
theorem ggL_addBundle_X11_addBundle_p4 : GoodIn wsL_addBundle wsX11_addBundle_r4 := goodIn_r _ [79, 80, 81, 82, 83, 84, 85, 86, 87, 88, 89, 90, 91, 92, 93, 94, 95, 96] (by decide +kernel) (by decide +kernel)
set_option maxRecDepth 20000 in
theorem ggL_addBundle_X11_addBundle_p5 : GoodIn wsL_addBundle wsX110 := goodIn_r _ [97, 98, 99, 100, 101, 102, 103] (by decide +kernel) (by decide +kernel)
set_option maxRecDepth 20000 in
theorem ggL_addBundle_X11_addBundle_p6 : GoodIn wsL_addBundle wsX20 := goodIn_r _ [104, 105, 106, 107, 108, 109, 110, 111, 112] (by decide +kernel) (by decide +kernel)
set_option maxRecDepth 20000 in
theorem ggL_addBundle_X11_addBundle_p7 : GoodIn wsL_addBundle wsX60 := goodIn_r _ [113, 114, 115, 116, 117, 118] (by decide +kernel) (by decide +kernel)
set_option maxRecDepth 20000 in
theorem ggL_addBundle_X11_addBundle_p8 : GoodIn wsL_addBundle wsX30 := goodIn_r _ [119, 120, 121, 122] (by decide +kernel) (by decide +kernel)
set_option maxRecDepth 20000 in
theorem ggL_addBundle_X11_addBundle_p9 : GoodIn wsL_addBundle wsX70 := goodIn_r _ [123, 124, 125, 126] (by decide +kernel) (by decide +kernel)
set_option maxRecDepth 20000 in
theorem ggL_addBundle_X11_addBundle_p10 : GoodIn wsL_addBundle wsX90 := goodIn_r _ [127, 128, 129, 130] (by decide +kernel) (by decide +kernel)
set_option maxRecDepth 20000 in
theorem ggL_addBundle_X11_addBundle : GoodIn wsL_addBundle wsX11_addBundle := goodIn_ca (goodIn_ca (goodIn_ca (goodIn_app ggL_addBundle_X11_addBundle_p0 (goodIn_app (goodIn_app (goodIn_app (goodIn_app (goodIn_app (goodIn_app (goodIn_app ggL_addBundle_X11_addBundle_p1 (goodIn_app ggL_addBundle_X11_addBundle_p2 (goodIn_app ggL_addBundle_X11_addBundle_p3 ggL_addBundle_X11_addBundle_p4))) ggL_addBundle_X11_addBundle_p5) ggL_addBundle_X11_addBundle_p6) ggL_addBundle_X11_addBundle_p7) ggL_addBundle_X11_addBundle_p8) ggL_addBundle_X11_addBundle_p9) ggL_addBundle_X11_addBundle_p10)) (goodIn_sub (fun _ h => List.mem_cons_of_mem _ (List.mem_append_left _ (List.mem_append_right _ h))) (by decide +kernel))) (goodIn_sub (fun _ h => List.mem_cons_of_mem _ (List.mem_append_right _ h)) (by decide +kernel))) (goodIn_sub (fun _ h => List.mem_cons_of_mem _ (List.mem_append_left _ (List.mem_append_left _ (List.mem_append_right _ h)))) (by decide +kernel))
set_option maxRecDepth 20000 in
theorem gL_addBundle_X11_addBundle : GoodIn wsL_addBundle (wsV RL 33 RX11 yX11_addBundle wsX11_addBundle) := goodIn_app (goodIn_of _ (by decide +kernel)) ggL_addBundle_X11_addBundle
theorem dL_addBundle_0 : decode cL_addBundle 0 = .ok (.aload 7, 2) := by decide +kernel
theorem dL_addBundle_2 : decode cL_addBundle 2 = .ok (.iconst 0, 1) := by decide +kernel
theorem dL_addBundle_3 : decode cL_addBundle 3 = .ok (.aload_n 0, 1) := by decide +kernel
theorem dL_addBundle_4 : decode cL_addBundle 4 = .ok (.iload_n 1, 1) := by decide +kernel
theorem dL_addBundle_5 : decode cL_addBundle 5 = .ok (.iload_n 2, 1) := by decide +kernel
theorem dL_addBundle_6 : decode cL_addBundle 6 = .ok (.iload_n 3, 1) := by decide +kernel
theorem dL_addBundle_7 : decode cL_addBundle 7 = .ok (.iload 4, 2) := by decide +kernel
theorem dL_addBundle_9 : decode cL_addBundle 9 = .ok (.iload 5, 2) := by decide +kernel
theorem dL_addBundle_11 : decode cL_addBundle 11 = .ok (.iload 6, 2) := by decide +kernel
theorem dL_addBundle_13 : decode cL_addBundle 13 = .ok (.invokevirtual 33, 3) := by decide +kernel
theorem dL_addBundle_16 : decode cL_addBundle 16 = .ok (.i2l, 1) := by decide +kernel
theorem dL_addBundle_17 : decode cL_addBundle 17 = .ok (.lastore, 1) := by decide +kernel
theorem dL_addBundle_18 : decode cL_addBundle 18 = .ok (.goto 11, 3) := by decide +kernel
theorem dL_addBundle_21 : decode cL_addBundle 21 = .ok (.astore 8, 2) := by decide +kernel
theorem dL_addBundle_23 : decode cL_addBundle 23 = .ok (.iconst 1, 1) := by decide +kernel
theorem dL_addBundle_24 : decode cL_addBundle 24 = .ok (.ireturn, 1) := by decide +kernel
theorem dL_addBundle_25 : decode cL_addBundle 25 = .ok (.astore 8, 2) := by decide +kernel
theorem dL_addBundle_27 : decode cL_addBundle 27 = .ok (.iconst 2, 1) := by decide +kernel
theorem dL_addBundle_28 : decode cL_addBundle 28 = .ok (.ireturn, 1) := by decide +kernel
theorem dL_addBundle_29 : decode cL_addBundle 29 = .ok (.iconst 0, 1) := by decide +kernel
theorem dL_addBundle_30 : decode cL_addBundle 30 = .ok (.ireturn, 1) := by decide +kernel
set_option maxRecDepth 20000 in
theorem ggL_addThreshold_X11_addThreshold_p0 : GoodIn wsL_addThreshold [.code yX11_addThreshold cX11_addThreshold 5 (some .int)] := goodIn_r _ [7] (by decide +kernel) (by decide +kernel)
set_option maxRecDepth 20000 in
theorem ggL_addThreshold_X11_addThreshold_p1 : GoodIn wsL_addThreshold wsX11_addThreshold_r1 := goodIn_r _ [8, 9, 10, 11, 12, 13, 14, 15, 16, 17, 6, 18, 19, 20, 21, 22, 23, 24, 25, 26, 27, 28, 29, 30] (by decide +kernel) (by decide +kernel)
set_option maxRecDepth 20000 in
theorem ggL_addThreshold_X11_addThreshold_p2 : GoodIn wsL_addThreshold wsX11_addThreshold_r2 := goodIn_r _ [31, 32, 33, 34, 35, 36, 37, 38, 39, 40, 41, 42, 43, 44, 45, 46, 47, 48, 49, 50, 51, 52, 53, 54] (by decide +kernel) (by decide +kernel)
set_option maxRecDepth 20000 in
theorem ggL_addThreshold_X11_addThreshold_p3 : GoodIn wsL_addThreshold wsX11_addThreshold_r3 := goodIn_r _ [55, 56, 57, 58, 59, 60, 61, 62, 63, 64, 65, 66, 67, 68, 69, 70, 71, 72, 73, 74, 75, 76, 77, 78] (by decide +kernel) (by decide +kernel)
set_option maxRecDepth 20000 in
theorem ggL_addThreshold_X11_addThreshold_p4 : GoodIn wsL_addThreshold wsX11_addThreshold_r4 := goodIn_r _ [79, 80, 81, 82, 83, 84, 85, 86, 87, 88] (by decide +kernel) (by decide +kernel)
set_option maxRecDepth 20000 in
theorem ggL_addThreshold_X11_addThreshold_p5 : GoodIn wsL_addThreshold wsX110 := goodIn_r _ [89, 90, 91, 92, 93, 94, 95] (by decide +kernel) (by decide +kernel)
set_option maxRecDepth 20000 in
theorem ggL_addThreshold_X11_addThreshold_p6 : GoodIn wsL_addThreshold wsX90 := goodIn_r _ [96, 97, 98, 99] (by decide +kernel) (by decide +kernel)
set_option maxRecDepth 20000 in
theorem ggL_addThreshold_X11_addThreshold_p7 : GoodIn wsL_addThreshold wsX60 := goodIn_r _ [100, 101, 102, 103, 104, 105] (by decide +kernel) (by decide +kernel)
set_option maxRecDepth 20000 in
theorem ggL_addThreshold_X11_addThreshold_p8 : GoodIn wsL_addThreshold wsX20 := goodIn_r _ [106, 107, 108, 109, 110, 111, 112, 113, 114] (by decide +kernel) (by decide +kernel)
set_option maxRecDepth 20000 in
theorem ggL_addThreshold_X11_addThreshold_p9 : GoodIn wsL_addThreshold wsX30 := goodIn_r _ [115, 116, 117, 118] (by decide +kernel) (by decide +kernel)
set_option maxRecDepth 20000 in
theorem ggL_addThreshold_X11_addThreshold_p10 : GoodIn wsL_addThreshold wsX70 := goodIn_r _ [119, 120, 121, 122] (by decide +kernel) (by decide +kernel)
set_option maxRecDepth 20000 in
theorem ggL_addThreshold_X11_addThreshold : GoodIn wsL_addThreshold wsX11_addThreshold := goodIn_ca (goodIn_ca (goodIn_ca (goodIn_app ggL_addThreshold_X11_addThreshold_p0 (goodIn_app (goodIn_app (goodIn_app (goodIn_app (goodIn_app (goodIn_app (goodIn_app ggL_addThreshold_X11_addThreshold_p1 (goodIn_app ggL_addThreshold_X11_addThreshold_p2 (goodIn_app ggL_addThreshold_X11_addThreshold_p3 ggL_addThreshold_X11_addThreshold_p4))) ggL_addThreshold_X11_addThreshold_p5) ggL_addThreshold_X11_addThreshold_p6) ggL_addThreshold_X11_addThreshold_p7) ggL_addThreshold_X11_addThreshold_p8) ggL_addThreshold_X11_addThreshold_p9) ggL_addThreshold_X11_addThreshold_p10)) (goodIn_sub (fun _ h => List.mem_cons_of_mem _ (List.mem_append_left _ (List.mem_append_right _ h))) (by decide +kernel))) (goodIn_sub (fun _ h => List.mem_cons_of_mem _ (List.mem_append_right _ h)) (by decide +kernel))) (goodIn_sub (fun _ h => List.mem_cons_of_mem _ (List.mem_append_left _ (List.mem_append_left _ (List.mem_append_right _ h)))) (by decide +kernel))
set_option maxRecDepth 20000 in
theorem gL_addThreshold_X11_addThreshold : GoodIn wsL_addThreshold (wsV RL 37 RX11 yX11_addThreshold wsX11_addThreshold) := goodIn_app (goodIn_of _ (by decide +kernel)) ggL_addThreshold_X11_addThreshold
theorem dL_addThreshold_0 : decode cL_addThreshold 0 = .ok (.aload 5, 2) := by decide +kernel
theorem dL_addThreshold_2 : decode cL_addThreshold 2 = .ok (.iconst 0, 1) := by decide +kernel
theorem dL_addThreshold_3 : decode cL_addThreshold 3 = .ok (.aload_n 0, 1) := by decide +kernel
theorem dL_addThreshold_4 : decode cL_addThreshold 4 = .ok (.iload_n 1, 1) := by decide +kernel
theorem dL_addThreshold_5 : decode cL_addThreshold 5 = .ok (.iload_n 2, 1) := by decide +kernel
theorem dL_addThreshold_6 : decode cL_addThreshold 6 = .ok (.iload_n 3, 1) := by decide +kernel
theorem dL_addThreshold_7 : decode cL_addThreshold 7 = .ok (.iload 4, 2) := by decide +kernel
theorem dL_addThreshold_9 : decode cL_addThreshold 9 = .ok (.invokevirtual 37, 3) := by decide +kernel
theorem dL_addThreshold_12 : decode cL_addThreshold 12 = .ok (.i2l, 1) := by decide +kernel
theorem dL_addThreshold_13 : decode cL_addThreshold 13 = .ok (.lastore, 1) := by decide +kernel
theorem dL_addThreshold_14 : decode cL_addThreshold 14 = .ok (.goto 11, 3) := by decide +kernel
theorem dL_addThreshold_17 : decode cL_addThreshold 17 = .ok (.astore 6, 2) := by decide +kernel
theorem dL_addThreshold_19 : decode cL_addThreshold 19 = .ok (.iconst 1, 1) := by decide +kernel
theorem dL_addThreshold_20 : decode cL_addThreshold 20 = .ok (.ireturn, 1) := by decide +kernel
theorem dL_addThreshold_21 : decode cL_addThreshold 21 = .ok (.astore 6, 2) := by decide +kernel
theorem dL_addThreshold_23 : decode cL_addThreshold 23 = .ok (.iconst 2, 1) := by decide +kernel
theorem dL_addThreshold_24 : decode cL_addThreshold 24 = .ok (.ireturn, 1) := by decide +kernel
theorem dL_addThreshold_25 : decode cL_addThreshold 25 = .ok (.iconst 0, 1) := by decide +kernel
theorem dL_addThreshold_26 : decode cL_addThreshold 26 = .ok (.ireturn, 1) := by decide +kernel
set_option maxRecDepth 20000 in
theorem ggL_left_X11_left_p0 : GoodIn wsL_left [.code yX11_left cX11_left 2 (some .int)] := goodIn_r _ [6] (by decide +kernel) (by decide +kernel)
set_option maxRecDepth 20000 in
theorem ggL_left_X11_left_p1 : GoodIn wsL_left wsX11_left_r1 := goodIn_r _ [7, 8, 9, 10, 11, 12, 13, 14, 15, 16, 17, 18, 19, 20, 21, 22, 23, 24, 25, 26, 27, 28, 29, 30] (by decide +kernel) (by decide +kernel)
set_option maxRecDepth 20000 in
theorem ggL_left_X11_left_p2 : GoodIn wsL_left wsX11_left_r2 := goodIn_r _ [31, 32, 33, 34, 35, 36, 37, 5, 38] (by decide +kernel) (by decide +kernel)
set_option maxRecDepth 20000 in
theorem ggL_left_X11_left_p3 : GoodIn wsL_left wsX110 := goodIn_r _ [39, 40, 41, 42, 43, 44, 45] (by decide +kernel) (by decide +kernel)
set_option maxRecDepth 20000 in
theorem ggL_left_X11_left_p4 : GoodIn wsL_left wsX60 := goodIn_r _ [46, 47, 48, 49, 50, 51] (by decide +kernel) (by decide +kernel)
set_option maxRecDepth 20000 in
theorem ggL_left_X11_left_p5 : GoodIn wsL_left wsX20 := goodIn_r _ [52, 53, 54, 55, 56, 57, 58, 59, 60] (by decide +kernel) (by decide +kernel)
set_option maxRecDepth 20000 in
theorem ggL_left_X11_left_p6 : GoodIn wsL_left wsX30 := goodIn_r _ [61, 62, 63, 64] (by decide +kernel) (by decide +kernel)
set_option maxRecDepth 20000 in
theorem ggL_left_X11_left_p7 : GoodIn wsL_left wsX70 := goodIn_r _ [65, 66, 67, 68] (by decide +kernel) (by decide +kernel)
set_option maxRecDepth 20000 in
theorem ggL_left_X11_left_p8 : GoodIn wsL_left wsX90 := goodIn_r _ [69, 70, 71, 72] (by decide +kernel) (by decide +kernel)
set_option maxRecDepth 20000 in
theorem ggL_left_X11_left : GoodIn wsL_left wsX11_left := goodIn_ca (goodIn_ca (goodIn_app ggL_left_X11_left_p0 (goodIn_app (goodIn_app (goodIn_app (goodIn_app (goodIn_app (goodIn_app (goodIn_app ggL_left_X11_left_p1 ggL_left_X11_left_p2) ggL_left_X11_left_p3) ggL_left_X11_left_p4) ggL_left_X11_left_p5) ggL_left_X11_left_p6) ggL_left_X11_left_p7) ggL_left_X11_left_p8)) (goodIn_sub (fun _ h => List.mem_cons_of_mem _ (List.mem_append_right _ h)) (by decide +kernel))) (goodIn_sub (fun _ h => List.mem_cons_of_mem _ (List.mem_append_left _ (List.mem_append_right _ h))) (by decide +kernel))
set_option maxRecDepth 20000 in
theorem gL_left_X11_left : GoodIn wsL_left (wsV RL 40 RX11 yX11_left wsX11_left) := goodIn_app (goodIn_of _ (by decide +kernel)) ggL_left_X11_left
theorem dL_left_0 : decode cL_left 0 = .ok (.aload_n 2, 1) := by decide +kernel
theorem dL_left_1 : decode cL_left 1 = .ok (.iconst 0, 1) := by decide +kernel
theorem dL_left_2 : decode cL_left 2 = .ok (.aload_n 0, 1) := by decide +kernel
theorem dL_left_3 : decode cL_left 3 = .ok (.iload_n 1, 1) := by decide +kernel
theorem dL_left_4 : decode cL_left 4 = .ok (.invokevirtual 40, 3) := by decide +kernel
theorem dL_left_7 : decode cL_left 7 = .ok (.i2l, 1) := by decide +kernel
theorem dL_left_8 : decode cL_left 8 = .ok (.lastore, 1) := by decide +kernel
theorem dL_left_9 : decode cL_left 9 = .ok (.goto 6, 3) := by decide +kernel
theorem dL_left_12 : decode cL_left 12 = .ok (.astore_n 3, 1) := by decide +kernel
theorem dL_left_13 : decode cL_left 13 = .ok (.iconst 1, 1) := by decide +kernel
theorem dL_left_14 : decode cL_left 14 = .ok (.ireturn, 1) := by decide +kernel
theorem dL_left_15 : decode cL_left 15 = .ok (.iconst 0, 1) := by decide +kernel
theorem dL_left_16 : decode cL_left 16 = .ok (.ireturn, 1) := by decide +kernel
set_option maxRecDepth 20000 in
theorem ggL_bestByTrying_X11_bestByTrying_p0 : GoodIn wsL_bestByTrying [.code yX11_bestByTrying cX11_bestByTrying 1 (some .int)] := goodIn_r _ [6] (by decide +kernel) (by decide +kernel)
set_option maxRecDepth 20000 in
theorem ggL_bestByTrying_X11_bestByTrying_p1 : GoodIn wsL_bestByTrying wsX11_bestByTrying_r1 := goodIn_r _ [7, 8, 9, 10, 11, 12, 13, 14, 15, 16, 17, 18, 19, 5, 20, 21, 22, 23, 24, 25, 26, 27, 28, 29] (by decide +kernel) (by decide +kernel)
set_option maxRecDepth 20000 in
theorem ggL_bestByTrying_X11_bestByTrying_p2 : GoodIn wsL_bestByTrying wsX11_bestByTrying_r2 := goodIn_r _ [30, 31, 32, 33, 34, 35, 36, 37, 38, 39, 40, 41, 42, 43, 44, 45, 46, 47, 48, 49, 50, 51, 52, 53] (by decide +kernel) (by decide +kernel)
set_option maxRecDepth 20000 in
theorem ggL_bestByTrying_X11_bestByTrying_p3 : GoodIn wsL_bestByTrying wsX11_bestByTrying_r3 := goodIn_r _ [54, 55, 56, 57, 58, 59, 60, 61, 62, 63, 64, 65, 66, 67, 68, 69, 70, 71, 72, 73, 74, 75, 76, 77] (by decide +kernel) (by decide +kernel)
set_option maxRecDepth 20000 in
theorem ggL_bestByTrying_X11_bestByTrying_p4 : GoodIn wsL_bestByTrying wsX11_bestByTrying_r4 := goodIn_r _ [78, 79, 80, 81, 82, 83, 84, 85, 86, 87, 88, 89, 90, 91, 92, 93, 94, 95, 96, 97, 98, 99, 100, 101] (by decide +kernel) (by decide +kernel)
set_option maxRecDepth 20000 in
theorem ggL_bestByTrying_X11_bestByTrying_p5 : GoodIn wsL_bestByTrying wsX11_bestByTrying_r5 := goodIn_r _ [102, 103, 104, 105, 106, 107, 108, 109, 110, 111, 112, 113, 114, 115, 116, 117, 118, 119, 120, 121, 122, 123, 124, 125] (by decide +kernel) (by decide +kernel)
set_option maxRecDepth 20000 in
theorem ggL_bestByTrying_X11_bestByTrying_p6 : GoodIn wsL_bestByTrying wsX11_bestByTrying_r6 := goodIn_r _ [126, 127, 128, 129, 130, 131, 132, 133, 134, 135, 136, 137, 138, 139, 140, 141, 142, 143, 144, 145, 146, 147, 148, 149] (by decide +kernel) (by decide +kernel)
set_option maxRecDepth 20000 in
theorem ggL_bestByTrying_X11_bestByTrying_p7 : GoodIn wsL_bestByTrying wsX11_bestByTrying_r7 := goodIn_r _ [150, 151, 152, 153, 154, 155, 156, 157, 158, 159, 160, 161, 162, 163, 164, 165, 166, 167, 168, 169, 170, 171, 172, 173] (by decide +kernel) (by decide +kernel)
set_option maxRecDepth 20000 in
theorem ggL_bestByTrying_X11_bestByTrying_p8 : GoodIn wsL_bestByTrying wsX11_bestByTrying_r8 := goodIn_r _ [174, 175, 176, 177, 178, 179, 180, 181, 182, 183, 184, 185, 186, 187, 188, 189, 190, 191, 192, 193, 194, 195, 196, 197] (by decide +kernel) (by decide +kernel)
set_option maxRecDepth 20000 in
theorem ggL_bestByTrying_X11_bestByTrying_p9 : GoodIn wsL_bestByTrying wsX11_bestByTrying_r9 := goodIn_r _ [198, 199, 200, 201, 202, 203, 204, 205, 206, 207, 208, 209, 210, 211, 212, 213, 214, 215, 216, 217, 218, 219, 220, 221] (by decide +kernel) (by decide +kernel)
set_option maxRecDepth 20000 in
theorem ggL_bestByTrying_X11_bestByTrying_p10 : GoodIn wsL_bestByTrying wsX11_bestByTrying_r10 := goodIn_r _ [222, 223, 224, 225, 226, 227, 228, 229, 230, 231, 232, 233, 234, 235, 236, 237, 238, 239, 240, 241, 242, 243, 244, 245] (by decide +kernel) (by decide +kernel)
set_option maxRecDepth 20000 in
theorem ggL_bestByTrying_X11_bestByTrying_p11 : GoodIn wsL_bestByTrying wsX11_bestByTrying_r11 := goodIn_r _ [246, 247, 248, 249, 250, 251, 252, 253, 254, 255, 256, 257, 258, 259, 260, 261, 262, 263, 264, 265, 266, 267, 268, 269] (by decide +kernel) (by decide +kernel)
set_option maxRecDepth 20000 in
theorem ggL_bestByTrying_X11_bestByTrying_p12 : GoodIn wsL_bestByTrying wsX11_bestByTrying_r12 := goodIn_r _ [270, 271, 272, 273, 274, 275, 276, 277, 278, 279, 280, 281, 282, 283, 284, 285, 286, 287, 288, 289, 290, 291, 292, 293] (by decide +kernel) (by decide +kernel)
set_option maxRecDepth 20000 in
theorem ggL_bestByTrying_X11_bestByTrying_p13 : GoodIn wsL_bestByTrying wsX11_bestByTrying_r13 := goodIn_r _ [294, 295, 296, 297, 298, 299, 300, 301, 302, 303, 304, 305, 306] (by decide +kernel) (by decide +kernel)
set_option maxRecDepth 20000 in
theorem ggL_bestByTrying_X11_bestByTrying_p14 : GoodIn wsL_bestByTrying wsX110 := goodIn_r _ [307, 308, 309, 310, 311, 312, 313] (by decide +kernel) (by decide +kernel)
set_option maxRecDepth 20000 in
theorem ggL_bestByTrying_X11_bestByTrying_p15 : GoodIn wsL_bestByTrying wsX00 := goodIn_r _ [314, 315, 316, 317, 318] (by decide +kernel) (by decide +kernel)
set_option maxRecDepth 20000 in
theorem ggL_bestByTrying_X11_bestByTrying_p16 : GoodIn wsL_bestByTrying wsX80 := goodIn_r _ [319, 320, 321, 322, 323, 324, 325, 326, 327, 328, 329, 330] (by decide +kernel) (by decide +kernel)
set_option maxRecDepth 20000 in
theorem ggL_bestByTrying_X11_bestByTrying_p17 : GoodIn wsL_bestByTrying wsX100 := goodIn_r _ [331, 332, 333, 334, 335] (by decide +kernel) (by decide +kernel)
set_option maxRecDepth 20000 in
theorem ggL_bestByTrying_X11_bestByTrying_p18 : GoodIn wsL_bestByTrying wsX60 := goodIn_r _ [336, 337, 338, 339, 340, 341] (by decide +kernel) (by decide +kernel)
set_option maxRecDepth 20000 in
theorem ggL_bestByTrying_X11_bestByTrying_p19 : GoodIn wsL_bestByTrying wsX20 := goodIn_r _ [342, 343, 344, 345, 346, 347, 348, 349, 350] (by decide +kernel) (by decide +kernel)
set_option maxRecDepth 20000 in
theorem ggL_bestByTrying_X11_bestByTrying_p20 : GoodIn wsL_bestByTrying wsX30 := goodIn_r _ [351, 352, 353, 354] (by decide +kernel) (by decide +kernel)
set_option maxRecDepth 20000 in
theorem ggL_bestByTrying_X11_bestByTrying_p21 : GoodIn wsL_bestByTrying wsX70 := goodIn_r _ [355, 356, 357, 358] (by decide +kernel) (by decide +kernel)
set_option maxRecDepth 20000 in
theorem ggL_bestByTrying_X11_bestByTrying_p22 : GoodIn wsL_bestByTrying wsX90 := goodIn_r _ [359, 360, 361, 362] (by decide +kernel) (by decide +kernel)
set_option maxRecDepth 20000 in
theorem ggL_bestByTrying_X11_bestByTrying_p23 : GoodIn wsL_bestByTrying wsX10 := goodIn_r _ [363, 364, 365, 366] (by decide +kernel) (by decide +kernel)
set_option maxRecDepth 20000 in
theorem ggL_bestByTrying_X11_bestByTrying : GoodIn wsL_bestByTrying wsX11_bestByTrying := goodIn_ca (goodIn_ca (goodIn_ca (goodIn_app ggL_bestByTrying_X11_bestByTrying_p0 (goodIn_app (goodIn_app (goodIn_app (goodIn_app (goodIn_app (goodIn_app (goodIn_app (goodIn_app (goodIn_app (goodIn_app (goodIn_app ggL_bestByTrying_X11_bestByTrying_p1 (goodIn_app ggL_bestByTrying_X11_bestByTrying_p2 (goodIn_app ggL_bestByTrying_X11_bestByTrying_p3 (goodIn_app ggL_bestByTrying_X11_bestByTrying_p4 (goodIn_app ggL_bestByTrying_X11_bestByTrying_p5 (goodIn_app ggL_bestByTrying_X11_bestByTrying_p6 (goodIn_app ggL_bestByTrying_X11_bestByTrying_p7 (goodIn_app ggL_bestByTrying_X11_bestByTrying_p8 (goodIn_app ggL_bestByTrying_X11_bestByTrying_p9 (goodIn_app ggL_bestByTrying_X11_bestByTrying_p10 (goodIn_app ggL_bestByTrying_X11_bestByTrying_p11 (goodIn_app ggL_bestByTrying_X11_bestByTrying_p12 ggL_bestByTrying_X11_bestByTrying_p13)))))))))))) ggL_bestByTrying_X11_bestByTrying_p14) ggL_bestByTrying_X11_bestByTrying_p15) ggL_bestByTrying_X11_bestByTrying_p16) ggL_bestByTrying_X11_bestByTrying_p17) ggL_bestByTrying_X11_bestByTrying_p18) ggL_bestByTrying_X11_bestByTrying_p19) ggL_bestByTrying_X11_bestByTrying_p20) ggL_bestByTrying_X11_bestByTrying_p21) ggL_bestByTrying_X11_bestByTrying_p22) ggL_bestByTrying_X11_bestByTrying_p23)) (goodIn_sub (fun _ h => List.mem_cons_of_mem _ (List.mem_append_left _ (List.mem_append_right _ h))) (by decide +kernel))) (goodIn_sub (fun _ h => List.mem_cons_of_mem _ (List.mem_append_left _ (List.mem_append_left _ (List.mem_append_right _ h)))) (by decide +kernel))) (goodIn_sub (fun _ h => List.mem_cons_of_mem _ (List.mem_append_right _ h)) (by decide +kernel))
set_option maxRecDepth 20000 in
theorem gL_bestByTrying_X11_bestByTrying : GoodIn wsL_bestByTrying (wsV RL 45 RX11 yX11_bestByTrying wsX11_bestByTrying) := goodIn_app (goodIn_of _ (by decide +kernel)) ggL_bestByTrying_X11_bestByTrying
theorem dL_bestByTrying_0 : decode cL_bestByTrying 0 = .ok (.aload_n 1, 1) := by decide +kernel
theorem dL_bestByTrying_1 : decode cL_bestByTrying 1 = .ok (.iconst 0, 1) := by decide +kernel
theorem dL_bestByTrying_2 : decode cL_bestByTrying 2 = .ok (.aload_n 0, 1) := by decide +kernel
theorem dL_bestByTrying_3 : decode cL_bestByTrying 3 = .ok (.invokevirtual 45, 3) := by decide +kernel
theorem dL_bestByTrying_6 : decode cL_bestByTrying 6 = .ok (.i2l, 1) := by decide +kernel
theorem dL_bestByTrying_7 : decode cL_bestByTrying 7 = .ok (.lastore, 1) := by decide +kernel
theorem dL_bestByTrying_8 : decode cL_bestByTrying 8 = .ok (.goto 6, 3) := by decide +kernel
theorem dL_bestByTrying_11 : decode cL_bestByTrying 11 = .ok (.astore_n 2, 1) := by decide +kernel
theorem dL_bestByTrying_12 : decode cL_bestByTrying 12 = .ok (.iconst 1, 1) := by decide +kernel
theorem dL_bestByTrying_13 : decode cL_bestByTrying 13 = .ok (.ireturn, 1) := by decide +kernel
theorem dL_bestByTrying_14 : decode cL_bestByTrying 14 = .ok (.iconst 0, 1) := by decide +kernel
theorem dL_bestByTrying_15 : decode cL_bestByTrying 15 = .ok (.ireturn, 1) := by decide +kernel
set_option maxRecDepth 20000 in
theorem ggL_offerOf_X11_offerOf_p0 : GoodIn wsL_offerOf [.code yX11_offerOf cX11_offerOf 3 (some .int)] := goodIn_r _ [6] (by decide +kernel) (by decide +kernel)
set_option maxRecDepth 20000 in
theorem ggL_offerOf_X11_offerOf_p1 : GoodIn wsL_offerOf wsX11_offerOf_r1 := goodIn_r _ [7, 8, 9, 10, 11, 12, 13, 14, 15, 16, 17, 18, 5, 19, 20, 21, 22, 23, 24, 25, 26, 27, 28, 29] (by decide +kernel) (by decide +kernel)
set_option maxRecDepth 20000 in
theorem ggL_offerOf_X11_offerOf_p2 : GoodIn wsL_offerOf wsX11_offerOf_r2 := goodIn_r _ [30, 31, 32, 33, 34, 35, 36, 37, 38, 39, 40, 41, 42, 43, 44, 45, 46, 47, 48, 49, 50, 51, 52, 53] (by decide +kernel) (by decide +kernel)
set_option maxRecDepth 20000 in
theorem ggL_offerOf_X11_offerOf_p3 : GoodIn wsL_offerOf wsX11_offerOf_r3 := goodIn_r _ [54, 55, 56, 57, 58, 59, 60, 61, 62, 63, 64, 65, 66, 67, 68, 69, 70, 71, 72, 73, 74, 75, 76, 77] (by decide +kernel) (by decide +kernel)
set_option maxRecDepth 20000 in
theorem ggL_offerOf_X11_offerOf_p4 : GoodIn wsL_offerOf wsX11_offerOf_r4 := goodIn_r _ [78, 79, 80, 81, 82, 83, 84, 85, 86, 87, 88, 89, 90, 91, 92, 93, 94, 95, 96, 97, 98, 99, 100, 101] (by decide +kernel) (by decide +kernel)
set_option maxRecDepth 20000 in
theorem ggL_offerOf_X11_offerOf_p5 : GoodIn wsL_offerOf wsX11_offerOf_r5 := goodIn_r _ [102, 103, 104, 105, 106, 107, 108, 109, 110, 111, 112, 113, 114, 115, 116, 117, 118, 119, 120, 121, 122, 123, 124, 125] (by decide +kernel) (by decide +kernel)
set_option maxRecDepth 20000 in
theorem ggL_offerOf_X11_offerOf_p6 : GoodIn wsL_offerOf wsX11_offerOf_r6 := goodIn_r _ [126, 127, 128, 129, 130, 131, 132, 133, 134, 135, 136, 137, 138, 139, 140, 141, 142, 143, 144, 145, 146, 147, 148, 149] (by decide +kernel) (by decide +kernel)
set_option maxRecDepth 20000 in
theorem ggL_offerOf_X11_offerOf_p7 : GoodIn wsL_offerOf wsX11_offerOf_r7 := goodIn_r _ [150, 151, 152, 153, 154, 155, 156, 157, 158, 159, 160, 161, 162, 163, 164, 165, 166, 167, 168, 169, 170, 171, 172, 173] (by decide +kernel) (by decide +kernel)
set_option maxRecDepth 20000 in
theorem ggL_offerOf_X11_offerOf_p8 : GoodIn wsL_offerOf wsX11_offerOf_r8 := goodIn_r _ [174, 175, 176, 177, 178, 179, 180, 181, 182, 183, 184, 185, 186, 187, 188, 189, 190, 191, 192, 193, 194, 195, 196, 197] (by decide +kernel) (by decide +kernel)
set_option maxRecDepth 20000 in
theorem ggL_offerOf_X11_offerOf_p9 : GoodIn wsL_offerOf wsX11_offerOf_r9 := goodIn_r _ [198, 199, 200, 201, 202, 203, 204, 205, 206, 207, 208, 209, 210, 211, 212, 213, 214, 215, 216, 217, 218, 219, 220, 221] (by decide +kernel) (by decide +kernel)
set_option maxRecDepth 20000 in
theorem ggL_offerOf_X11_offerOf_p10 : GoodIn wsL_offerOf wsX11_offerOf_r10 := goodIn_r _ [222, 223, 224, 225, 226, 227, 228, 229, 230, 231, 232, 233, 234, 235, 236, 237, 238, 239, 240, 241, 242, 243, 244, 245] (by decide +kernel) (by decide +kernel)
set_option maxRecDepth 20000 in
theorem ggL_offerOf_X11_offerOf_p11 : GoodIn wsL_offerOf wsX11_offerOf_r11 := goodIn_r _ [246, 247, 248, 249, 250, 251, 252, 253, 254, 255, 256, 257, 258, 259, 260, 261, 262, 263, 264, 265, 266, 267, 268, 269] (by decide +kernel) (by decide +kernel)
set_option maxRecDepth 20000 in
theorem ggL_offerOf_X11_offerOf_p12 : GoodIn wsL_offerOf wsX11_offerOf_r12 := goodIn_r _ [270, 271, 272, 273, 274, 275, 276, 277, 278, 279, 280, 281, 282, 283, 284, 285, 286, 287, 288, 289, 290, 291, 292, 293] (by decide +kernel) (by decide +kernel)
set_option maxRecDepth 20000 in
theorem ggL_offerOf_X11_offerOf_p13 : GoodIn wsL_offerOf wsX11_offerOf_r13 := goodIn_r _ [294, 295, 296, 297, 298, 299, 300, 301, 302, 303] (by decide +kernel) (by decide +kernel)
set_option maxRecDepth 20000 in
theorem ggL_offerOf_X11_offerOf_p14 : GoodIn wsL_offerOf wsX110 := goodIn_r _ [304, 305, 306, 307, 308, 309, 310] (by decide +kernel) (by decide +kernel)
set_option maxRecDepth 20000 in
theorem ggL_offerOf_X11_offerOf_p15 : GoodIn wsL_offerOf wsX00 := goodIn_r _ [311, 312, 313, 314, 315] (by decide +kernel) (by decide +kernel)
set_option maxRecDepth 20000 in
theorem ggL_offerOf_X11_offerOf_p16 : GoodIn wsL_offerOf wsX80 := goodIn_r _ [316, 317, 318, 319, 320, 321, 322, 323, 324, 325, 326, 327] (by decide +kernel) (by decide +kernel)
set_option maxRecDepth 20000 in
theorem ggL_offerOf_X11_offerOf_p17 : GoodIn wsL_offerOf wsX100 := goodIn_r _ [328, 329, 330, 331, 332] (by decide +kernel) (by decide +kernel)
set_option maxRecDepth 20000 in
theorem ggL_offerOf_X11_offerOf_p18 : GoodIn wsL_offerOf wsX60 := goodIn_r _ [333, 334, 335, 336, 337, 338] (by decide +kernel) (by decide +kernel)
set_option maxRecDepth 20000 in
theorem ggL_offerOf_X11_offerOf_p19 : GoodIn wsL_offerOf wsX20 := goodIn_r _ [339, 340, 341, 342, 343, 344, 345, 346, 347] (by decide +kernel) (by decide +kernel)
set_option maxRecDepth 20000 in
theorem ggL_offerOf_X11_offerOf_p20 : GoodIn wsL_offerOf wsX30 := goodIn_r _ [348, 349, 350, 351] (by decide +kernel) (by decide +kernel)
set_option maxRecDepth 20000 in
theorem ggL_offerOf_X11_offerOf_p21 : GoodIn wsL_offerOf wsX70 := goodIn_r _ [352, 353, 354, 355] (by decide +kernel) (by decide +kernel)
set_option maxRecDepth 20000 in
theorem ggL_offerOf_X11_offerOf_p22 : GoodIn wsL_offerOf wsX90 := goodIn_r _ [356, 357, 358, 359] (by decide +kernel) (by decide +kernel)
set_option maxRecDepth 20000 in
theorem ggL_offerOf_X11_offerOf_p23 : GoodIn wsL_offerOf wsX10 := goodIn_r _ [360, 361, 362, 363] (by decide +kernel) (by decide +kernel)
set_option maxRecDepth 20000 in
theorem ggL_offerOf_X11_offerOf : GoodIn wsL_offerOf wsX11_offerOf := goodIn_ca (goodIn_ca (goodIn_ca (goodIn_app ggL_offerOf_X11_offerOf_p0 (goodIn_app (goodIn_app (goodIn_app (goodIn_app (goodIn_app (goodIn_app (goodIn_app (goodIn_app (goodIn_app (goodIn_app (goodIn_app ggL_offerOf_X11_offerOf_p1 (goodIn_app ggL_offerOf_X11_offerOf_p2 (goodIn_app ggL_offerOf_X11_offerOf_p3 (goodIn_app ggL_offerOf_X11_offerOf_p4 (goodIn_app ggL_offerOf_X11_offerOf_p5 (goodIn_app ggL_offerOf_X11_offerOf_p6 (goodIn_app ggL_offerOf_X11_offerOf_p7 (goodIn_app ggL_offerOf_X11_offerOf_p8 (goodIn_app ggL_offerOf_X11_offerOf_p9 (goodIn_app ggL_offerOf_X11_offerOf_p10 (goodIn_app ggL_offerOf_X11_offerOf_p11 (goodIn_app ggL_offerOf_X11_offerOf_p12 ggL_offerOf_X11_offerOf_p13)))))))))))) ggL_offerOf_X11_offerOf_p14) ggL_offerOf_X11_offerOf_p15) ggL_offerOf_X11_offerOf_p16) ggL_offerOf_X11_offerOf_p17) ggL_offerOf_X11_offerOf_p18) ggL_offerOf_X11_offerOf_p19) ggL_offerOf_X11_offerOf_p20) ggL_offerOf_X11_offerOf_p21) ggL_offerOf_X11_offerOf_p22) ggL_offerOf_X11_offerOf_p23)) (goodIn_sub (fun _ h => List.mem_cons_of_mem _ (List.mem_append_left _ (List.mem_append_right _ h))) (by decide +kernel))) (goodIn_sub (fun _ h => List.mem_cons_of_mem _ (List.mem_append_left _ (List.mem_append_left _ (List.mem_append_right _ h)))) (by decide +kernel))) (goodIn_sub (fun _ h => List.mem_cons_of_mem _ (List.mem_append_right _ h)) (by decide +kernel))
set_option maxRecDepth 20000 in
theorem gL_offerOf_X11_offerOf : GoodIn wsL_offerOf (wsV RL 51 RX11 yX11_offerOf wsX11_offerOf) := goodIn_app (goodIn_of _ (by decide +kernel)) ggL_offerOf_X11_offerOf
theorem dL_offerOf_0 : decode cL_offerOf 0 = .ok (.aload_n 2, 1) := by decide +kernel
theorem dL_offerOf_1 : decode cL_offerOf 1 = .ok (.iconst 0, 1) := by decide +kernel
theorem dL_offerOf_2 : decode cL_offerOf 2 = .ok (.aload_n 0, 1) := by decide +kernel
theorem dL_offerOf_3 : decode cL_offerOf 3 = .ok (.iload_n 1, 1) := by decide +kernel
theorem dL_offerOf_4 : decode cL_offerOf 4 = .ok (.invokevirtual 51, 3) := by decide +kernel
theorem dL_offerOf_7 : decode cL_offerOf 7 = .ok (.i2l, 1) := by decide +kernel
theorem dL_offerOf_8 : decode cL_offerOf 8 = .ok (.lastore, 1) := by decide +kernel
theorem dL_offerOf_9 : decode cL_offerOf 9 = .ok (.goto 6, 3) := by decide +kernel
theorem dL_offerOf_12 : decode cL_offerOf 12 = .ok (.astore_n 3, 1) := by decide +kernel
theorem dL_offerOf_13 : decode cL_offerOf 13 = .ok (.iconst 1, 1) := by decide +kernel
theorem dL_offerOf_14 : decode cL_offerOf 14 = .ok (.ireturn, 1) := by decide +kernel
theorem dL_offerOf_15 : decode cL_offerOf 15 = .ok (.iconst 0, 1) := by decide +kernel
theorem dL_offerOf_16 : decode cL_offerOf 16 = .ok (.ireturn, 1) := by decide +kernel
set_option maxRecDepth 20000 in
theorem ggL_uses_X11_uses_p0 : GoodIn wsL_uses [.code yX11_uses cX11_uses 2 (some .int)] := goodIn_r _ [6] (by decide +kernel) (by decide +kernel)
set_option maxRecDepth 20000 in
theorem ggL_uses_X11_uses_p1 : GoodIn wsL_uses wsX11_uses_r1 := goodIn_r _ [7, 8, 9, 10, 11, 12, 13, 14, 15, 16, 17, 18, 19, 5, 20, 21, 22, 23, 24, 25, 26, 27, 28, 29] (by decide +kernel) (by decide +kernel)
set_option maxRecDepth 20000 in
theorem ggL_uses_X11_uses_p2 : GoodIn wsL_uses wsX11_uses_r2 := goodIn_r _ [30, 31, 32, 33, 34, 35, 36, 37, 38, 39, 40, 41, 42, 43, 44, 45, 46, 47, 48, 49, 50, 51, 52, 53] (by decide +kernel) (by decide +kernel)
set_option maxRecDepth 20000 in
theorem ggL_uses_X11_uses_p3 : GoodIn wsL_uses wsX11_uses_r3 := goodIn_r _ [54, 55, 56, 57, 58, 59, 60, 61, 62, 63, 64, 65, 66, 67, 68, 69, 70, 71, 72, 73, 74, 75, 76, 77] (by decide +kernel) (by decide +kernel)
set_option maxRecDepth 20000 in
theorem ggL_uses_X11_uses_p4 : GoodIn wsL_uses wsX11_uses_r4 := goodIn_r _ [78, 79, 80, 81, 82, 83, 84, 85, 86, 87, 88, 89, 90, 91, 92, 93, 94, 95, 96, 97, 98, 99, 100, 101] (by decide +kernel) (by decide +kernel)
set_option maxRecDepth 20000 in
theorem ggL_uses_X11_uses_p5 : GoodIn wsL_uses wsX11_uses_r5 := goodIn_r _ [102, 103, 104, 105, 106, 107, 108, 109, 110, 111, 112, 113, 114, 115, 116, 117, 118, 119, 120, 121, 122, 123, 124, 125] (by decide +kernel) (by decide +kernel)
set_option maxRecDepth 20000 in
theorem ggL_uses_X11_uses_p6 : GoodIn wsL_uses wsX11_uses_r6 := goodIn_r _ [126, 127, 128, 129, 130, 131, 132, 133, 134, 135, 136, 137, 138, 139, 140, 141, 142, 143, 144, 145, 146, 147, 148, 149] (by decide +kernel) (by decide +kernel)
set_option maxRecDepth 20000 in
theorem ggL_uses_X11_uses_p7 : GoodIn wsL_uses wsX11_uses_r7 := goodIn_r _ [150, 151, 152, 153, 154, 155, 156, 157, 158, 159, 160, 161, 162, 163, 164, 165, 166, 167, 168, 169, 170, 171, 172, 173] (by decide +kernel) (by decide +kernel)
set_option maxRecDepth 20000 in
theorem ggL_uses_X11_uses_p8 : GoodIn wsL_uses wsX11_uses_r8 := goodIn_r _ [174, 175, 176, 177, 178, 179, 180, 181, 182, 183, 184, 185, 186, 187, 188, 189, 190, 191, 192, 193, 194, 195, 196, 197] (by decide +kernel) (by decide +kernel)
set_option maxRecDepth 20000 in
theorem ggL_uses_X11_uses_p9 : GoodIn wsL_uses wsX11_uses_r9 := goodIn_r _ [198, 199, 200, 201, 202, 203, 204, 205, 206, 207, 208, 209, 210, 211, 212, 213, 214, 215, 216, 217, 218, 219, 220, 221] (by decide +kernel) (by decide +kernel)
set_option maxRecDepth 20000 in
theorem ggL_uses_X11_uses_p10 : GoodIn wsL_uses wsX11_uses_r10 := goodIn_r _ [222, 223, 224, 225, 226, 227, 228, 229, 230, 231, 232, 233, 234, 235, 236, 237, 238, 239, 240, 241, 242, 243, 244, 245] (by decide +kernel) (by decide +kernel)
set_option maxRecDepth 20000 in
theorem ggL_uses_X11_uses_p11 : GoodIn wsL_uses wsX11_uses_r11 := goodIn_r _ [246, 247, 248, 249, 250, 251, 252, 253, 254, 255, 256, 257, 258, 259, 260, 261, 262, 263, 264, 265, 266, 267, 268, 269] (by decide +kernel) (by decide +kernel)
set_option maxRecDepth 20000 in
theorem ggL_uses_X11_uses_p12 : GoodIn wsL_uses wsX11_uses_r12 := goodIn_r _ [270, 271, 272, 273, 274, 275, 276, 277, 278, 279, 280, 281, 282, 283, 284, 285, 286, 287, 288, 289, 290, 291, 292, 293] (by decide +kernel) (by decide +kernel)
set_option maxRecDepth 20000 in
theorem ggL_uses_X11_uses_p13 : GoodIn wsL_uses wsX11_uses_r13 := goodIn_r _ [294, 295, 296, 297, 298, 299, 300, 301, 302] (by decide +kernel) (by decide +kernel)
set_option maxRecDepth 20000 in
theorem ggL_uses_X11_uses_p14 : GoodIn wsL_uses wsX110 := goodIn_r _ [303, 304, 305, 306, 307, 308, 309] (by decide +kernel) (by decide +kernel)
set_option maxRecDepth 20000 in
theorem ggL_uses_X11_uses_p15 : GoodIn wsL_uses wsX60 := goodIn_r _ [310, 311, 312, 313, 314, 315] (by decide +kernel) (by decide +kernel)
set_option maxRecDepth 20000 in
theorem ggL_uses_X11_uses_p16 : GoodIn wsL_uses wsX80 := goodIn_r _ [316, 317, 318, 319, 320, 321, 322, 323, 324, 325, 326, 327] (by decide +kernel) (by decide +kernel)
set_option maxRecDepth 20000 in
theorem ggL_uses_X11_uses_p17 : GoodIn wsL_uses wsX100 := goodIn_r _ [328, 329, 330, 331, 332] (by decide +kernel) (by decide +kernel)
set_option maxRecDepth 20000 in
theorem ggL_uses_X11_uses_p18 : GoodIn wsL_uses wsX00 := goodIn_r _ [333, 334, 335, 336, 337] (by decide +kernel) (by decide +kernel)
set_option maxRecDepth 20000 in
theorem ggL_uses_X11_uses_p19 : GoodIn wsL_uses wsX20 := goodIn_r _ [338, 339, 340, 341, 342, 343, 344, 345, 346] (by decide +kernel) (by decide +kernel)
set_option maxRecDepth 20000 in
theorem ggL_uses_X11_uses_p20 : GoodIn wsL_uses wsX30 := goodIn_r _ [347, 348, 349, 350] (by decide +kernel) (by decide +kernel)
set_option maxRecDepth 20000 in
theorem ggL_uses_X11_uses_p21 : GoodIn wsL_uses wsX70 := goodIn_r _ [351, 352, 353, 354] (by decide +kernel) (by decide +kernel)
set_option maxRecDepth 20000 in
theorem ggL_uses_X11_uses_p22 : GoodIn wsL_uses wsX90 := goodIn_r _ [355, 356, 357, 358] (by decide +kernel) (by decide +kernel)
set_option maxRecDepth 20000 in
theorem ggL_uses_X11_uses_p23 : GoodIn wsL_uses wsX10 := goodIn_r _ [359, 360, 361, 362] (by decide +kernel) (by decide +kernel)
set_option maxRecDepth 20000 in
theorem ggL_uses_X11_uses : GoodIn wsL_uses wsX11_uses := goodIn_ca (goodIn_ca (goodIn_ca (goodIn_app ggL_uses_X11_uses_p0 (goodIn_app (goodIn_app (goodIn_app (goodIn_app (goodIn_app (goodIn_app (goodIn_app (goodIn_app (goodIn_app (goodIn_app (goodIn_app ggL_uses_X11_uses_p1 (goodIn_app ggL_uses_X11_uses_p2 (goodIn_app ggL_uses_X11_uses_p3 (goodIn_app ggL_uses_X11_uses_p4 (goodIn_app ggL_uses_X11_uses_p5 (goodIn_app ggL_uses_X11_uses_p6 (goodIn_app ggL_uses_X11_uses_p7 (goodIn_app ggL_uses_X11_uses_p8 (goodIn_app ggL_uses_X11_uses_p9 (goodIn_app ggL_uses_X11_uses_p10 (goodIn_app ggL_uses_X11_uses_p11 (goodIn_app ggL_uses_X11_uses_p12 ggL_uses_X11_uses_p13)))))))))))) ggL_uses_X11_uses_p14) ggL_uses_X11_uses_p15) ggL_uses_X11_uses_p16) ggL_uses_X11_uses_p17) ggL_uses_X11_uses_p18) ggL_uses_X11_uses_p19) ggL_uses_X11_uses_p20) ggL_uses_X11_uses_p21) ggL_uses_X11_uses_p22) ggL_uses_X11_uses_p23)) (goodIn_sub (fun _ h => List.mem_cons_of_mem _ (List.mem_append_left _ (List.mem_append_right _ h))) (by decide +kernel))) (goodIn_sub (fun _ h => List.mem_cons_of_mem _ (List.mem_append_left _ (List.mem_append_left _ (List.mem_append_right _ h)))) (by decide +kernel))) (goodIn_sub (fun _ h => List.mem_cons_of_mem _ (List.mem_append_right _ h)) (by decide +kernel))
set_option maxRecDepth 20000 in
theorem gL_uses_X11_uses : GoodIn wsL_uses (wsV RL 54 RX11 yX11_uses wsX11_uses) := goodIn_app (goodIn_of _ (by decide +kernel)) ggL_uses_X11_uses
theorem dL_uses_0 : decode cL_uses 0 = .ok (.aload_n 2, 1) := by decide +kernel
theorem dL_uses_1 : decode cL_uses 1 = .ok (.iconst 0, 1) := by decide +kernel
theorem dL_uses_2 : decode cL_uses 2 = .ok (.aload_n 0, 1) := by decide +kernel
theorem dL_uses_3 : decode cL_uses 3 = .ok (.iload_n 1, 1) := by decide +kernel
theorem dL_uses_4 : decode cL_uses 4 = .ok (.invokevirtual 54, 3) := by decide +kernel
theorem dL_uses_7 : decode cL_uses 7 = .ok (.i2l, 1) := by decide +kernel
theorem dL_uses_8 : decode cL_uses 8 = .ok (.lastore, 1) := by decide +kernel
theorem dL_uses_9 : decode cL_uses 9 = .ok (.goto 6, 3) := by decide +kernel
theorem dL_uses_12 : decode cL_uses 12 = .ok (.astore_n 3, 1) := by decide +kernel
theorem dL_uses_13 : decode cL_uses 13 = .ok (.iconst 1, 1) := by decide +kernel
theorem dL_uses_14 : decode cL_uses 14 = .ok (.ireturn, 1) := by decide +kernel
theorem dL_uses_15 : decode cL_uses 15 = .ok (.iconst 0, 1) := by decide +kernel
theorem dL_uses_16 : decode cL_uses 16 = .ok (.ireturn, 1) := by decide +kernel
set_option maxRecDepth 20000 in
theorem ggL_reason_X11_reason_p0 : GoodIn wsL_reason [.code yX11_reason cX11_reason 2 (some .char)] := goodIn_r _ [6] (by decide +kernel) (by decide +kernel)
set_option maxRecDepth 20000 in
theorem ggL_reason_X11_reason_p1 : GoodIn wsL_reason wsX11_reason_r1 := goodIn_r _ [7, 8, 9, 10, 11, 12, 13, 14, 15, 16, 17, 18, 19, 20, 5, 21, 22, 23, 24, 25, 26, 27, 28, 29] (by decide +kernel) (by decide +kernel)
set_option maxRecDepth 20000 in
theorem ggL_reason_X11_reason_p2 : GoodIn wsL_reason wsX11_reason_r2 := goodIn_r _ [30, 31, 32, 33, 34, 35, 36, 37, 38, 39, 40, 41, 42, 43, 44, 45, 46, 47, 48, 49, 50, 51, 52, 53] (by decide +kernel) (by decide +kernel)
set_option maxRecDepth 20000 in
theorem ggL_reason_X11_reason_p3 : GoodIn wsL_reason wsX11_reason_r3 := goodIn_r _ [54, 55, 56, 57, 58, 59, 60, 61, 62, 63, 64, 65, 66, 67, 68, 69, 70, 71, 72, 73, 74, 75, 76, 77] (by decide +kernel) (by decide +kernel)
set_option maxRecDepth 20000 in
theorem ggL_reason_X11_reason_p4 : GoodIn wsL_reason wsX11_reason_r4 := goodIn_r _ [78, 79, 80, 81, 82, 83, 84, 85, 86, 87, 88, 89, 90, 91, 92, 93, 94, 95, 96, 97, 98, 99, 100, 101] (by decide +kernel) (by decide +kernel)
set_option maxRecDepth 20000 in
theorem ggL_reason_X11_reason_p5 : GoodIn wsL_reason wsX11_reason_r5 := goodIn_r _ [102, 103, 104, 105, 106, 107, 108, 109, 110, 111, 112, 113, 114, 115, 116, 117, 118, 119, 120, 121, 122, 123, 124, 125] (by decide +kernel) (by decide +kernel)
set_option maxRecDepth 20000 in
theorem ggL_reason_X11_reason_p6 : GoodIn wsL_reason wsX11_reason_r6 := goodIn_r _ [126, 127, 128, 129, 130, 131, 132, 133, 134, 135, 136, 137, 138, 139, 140, 141, 142, 143, 144, 145, 146, 147, 148, 149] (by decide +kernel) (by decide +kernel)
set_option maxRecDepth 20000 in
theorem ggL_reason_X11_reason_p7 : GoodIn wsL_reason wsX11_reason_r7 := goodIn_r _ [150, 151, 152, 153, 154, 155, 156, 157, 158, 159, 160, 161, 162, 163, 164, 165, 166, 167, 168, 169, 170, 171, 172, 173] (by decide +kernel) (by decide +kernel)
set_option maxRecDepth 20000 in
theorem ggL_reason_X11_reason_p8 : GoodIn wsL_reason wsX11_reason_r8 := goodIn_r _ [174, 175, 176, 177, 178, 179, 180, 181, 182, 183, 184, 185, 186, 187, 188, 189, 190, 191, 192, 193, 194, 195, 196, 197] (by decide +kernel) (by decide +kernel)
set_option maxRecDepth 20000 in
theorem ggL_reason_X11_reason_p9 : GoodIn wsL_reason wsX11_reason_r9 := goodIn_r _ [198, 199, 200, 201, 202, 203, 204, 205, 206, 207, 208, 209, 210, 211, 212, 213, 214, 215, 216, 217, 218, 219, 220, 221] (by decide +kernel) (by decide +kernel)
set_option maxRecDepth 20000 in
theorem ggL_reason_X11_reason_p10 : GoodIn wsL_reason wsX11_reason_r10 := goodIn_r _ [222, 223, 224, 225, 226, 227, 228, 229, 230, 231, 232, 233, 234, 235, 236, 237, 238, 239, 240, 241, 242, 243, 244, 245] (by decide +kernel) (by decide +kernel)
set_option maxRecDepth 20000 in
theorem ggL_reason_X11_reason_p11 : GoodIn wsL_reason wsX11_reason_r11 := goodIn_r _ [246, 247, 248, 249, 250, 251, 252, 253, 254, 255, 256, 257, 258, 259, 260, 261, 262, 263, 264, 265, 266, 267, 268, 269] (by decide +kernel) (by decide +kernel)
set_option maxRecDepth 20000 in
theorem ggL_reason_X11_reason_p12 : GoodIn wsL_reason wsX11_reason_r12 := goodIn_r _ [270, 271, 272, 273, 274, 275, 276, 277, 278, 279, 280, 281, 282, 283, 284, 285, 286, 287, 288, 289, 290, 291, 292, 293] (by decide +kernel) (by decide +kernel)
set_option maxRecDepth 20000 in
theorem ggL_reason_X11_reason_p13 : GoodIn wsL_reason wsX11_reason_r13 := goodIn_r _ [294, 295, 296, 297, 298, 299, 300, 301, 302, 303, 304, 305, 306, 307, 308, 309, 310, 311] (by decide +kernel) (by decide +kernel)
set_option maxRecDepth 20000 in
theorem ggL_reason_X11_reason_p14 : GoodIn wsL_reason wsX110 := goodIn_r _ [312, 313, 314, 315, 316, 317, 318] (by decide +kernel) (by decide +kernel)
set_option maxRecDepth 20000 in
theorem ggL_reason_X11_reason_p15 : GoodIn wsL_reason wsX60 := goodIn_r _ [319, 320, 321, 322, 323, 324] (by decide +kernel) (by decide +kernel)
set_option maxRecDepth 20000 in
theorem ggL_reason_X11_reason_p16 : GoodIn wsL_reason wsX80 := goodIn_r _ [325, 326, 327, 328, 329, 330, 331, 332, 333, 334, 335, 336] (by decide +kernel) (by decide +kernel)
set_option maxRecDepth 20000 in
theorem ggL_reason_X11_reason_p17 : GoodIn wsL_reason wsX100 := goodIn_r _ [337, 338, 339, 340, 341] (by decide +kernel) (by decide +kernel)
set_option maxRecDepth 20000 in
theorem ggL_reason_X11_reason_p18 : GoodIn wsL_reason wsX00 := goodIn_r _ [342, 343, 344, 345, 346] (by decide +kernel) (by decide +kernel)
set_option maxRecDepth 20000 in
theorem ggL_reason_X11_reason_p19 : GoodIn wsL_reason wsX20 := goodIn_r _ [347, 348, 349, 350, 351, 352, 353, 354, 355] (by decide +kernel) (by decide +kernel)
set_option maxRecDepth 20000 in
theorem ggL_reason_X11_reason_p20 : GoodIn wsL_reason wsX30 := goodIn_r _ [356, 357, 358, 359] (by decide +kernel) (by decide +kernel)
set_option maxRecDepth 20000 in
theorem ggL_reason_X11_reason_p21 : GoodIn wsL_reason wsX70 := goodIn_r _ [360, 361, 362, 363] (by decide +kernel) (by decide +kernel)
set_option maxRecDepth 20000 in
theorem ggL_reason_X11_reason_p22 : GoodIn wsL_reason wsX90 := goodIn_r _ [364, 365, 366, 367] (by decide +kernel) (by decide +kernel)
set_option maxRecDepth 20000 in
theorem ggL_reason_X11_reason_p23 : GoodIn wsL_reason wsX10 := goodIn_r _ [368, 369, 370, 371] (by decide +kernel) (by decide +kernel)
set_option maxRecDepth 20000 in
theorem ggL_reason_X11_reason : GoodIn wsL_reason wsX11_reason := goodIn_ca (goodIn_ca (goodIn_ca (goodIn_app ggL_reason_X11_reason_p0 (goodIn_app (goodIn_app (goodIn_app (goodIn_app (goodIn_app (goodIn_app (goodIn_app (goodIn_app (goodIn_app (goodIn_app (goodIn_app ggL_reason_X11_reason_p1 (goodIn_app ggL_reason_X11_reason_p2 (goodIn_app ggL_reason_X11_reason_p3 (goodIn_app ggL_reason_X11_reason_p4 (goodIn_app ggL_reason_X11_reason_p5 (goodIn_app ggL_reason_X11_reason_p6 (goodIn_app ggL_reason_X11_reason_p7 (goodIn_app ggL_reason_X11_reason_p8 (goodIn_app ggL_reason_X11_reason_p9 (goodIn_app ggL_reason_X11_reason_p10 (goodIn_app ggL_reason_X11_reason_p11 (goodIn_app ggL_reason_X11_reason_p12 ggL_reason_X11_reason_p13)))))))))))) ggL_reason_X11_reason_p14) ggL_reason_X11_reason_p15) ggL_reason_X11_reason_p16) ggL_reason_X11_reason_p17) ggL_reason_X11_reason_p18) ggL_reason_X11_reason_p19) ggL_reason_X11_reason_p20) ggL_reason_X11_reason_p21) ggL_reason_X11_reason_p22) ggL_reason_X11_reason_p23)) (goodIn_sub (fun _ h => List.mem_cons_of_mem _ (List.mem_append_left _ (List.mem_append_right _ h))) (by decide +kernel))) (goodIn_sub (fun _ h => List.mem_cons_of_mem _ (List.mem_append_left _ (List.mem_append_left _ (List.mem_append_right _ h)))) (by decide +kernel))) (goodIn_sub (fun _ h => List.mem_cons_of_mem _ (List.mem_append_right _ h)) (by decide +kernel))
set_option maxRecDepth 20000 in
theorem gL_reason_X11_reason : GoodIn wsL_reason (wsV RL 57 RX11 yX11_reason wsX11_reason) := goodIn_app (goodIn_of _ (by decide +kernel)) ggL_reason_X11_reason
theorem dL_reason_0 : decode cL_reason 0 = .ok (.aload_n 2, 1) := by decide +kernel
theorem dL_reason_1 : decode cL_reason 1 = .ok (.iconst 0, 1) := by decide +kernel
theorem dL_reason_2 : decode cL_reason 2 = .ok (.aload_n 0, 1) := by decide +kernel
theorem dL_reason_3 : decode cL_reason 3 = .ok (.iload_n 1, 1) := by decide +kernel
theorem dL_reason_4 : decode cL_reason 4 = .ok (.invokevirtual 57, 3) := by decide +kernel
theorem dL_reason_7 : decode cL_reason 7 = .ok (.i2l, 1) := by decide +kernel
theorem dL_reason_8 : decode cL_reason 8 = .ok (.lastore, 1) := by decide +kernel
theorem dL_reason_9 : decode cL_reason 9 = .ok (.goto 6, 3) := by decide +kernel
theorem dL_reason_12 : decode cL_reason 12 = .ok (.astore_n 3, 1) := by decide +kernel
theorem dL_reason_13 : decode cL_reason 13 = .ok (.iconst 1, 1) := by decide +kernel
theorem dL_reason_14 : decode cL_reason 14 = .ok (.ireturn, 1) := by decide +kernel
theorem dL_reason_15 : decode cL_reason 15 = .ok (.iconst 0, 1) := by decide +kernel
theorem dL_reason_16 : decode cL_reason 16 = .ok (.ireturn, 1) := by decide +kernel
set_option maxRecDepth 20000 in
theorem ggL_netPrice_X11_netPrice_p0 : GoodIn wsL_netPrice [.code yX11_netPrice cX11_netPrice 3 (some .int)] := goodIn_r _ [6] (by decide +kernel) (by decide +kernel)
set_option maxRecDepth 20000 in
theorem ggL_netPrice_X11_netPrice_p1 : GoodIn wsL_netPrice wsX11_netPrice_r1 := goodIn_r _ [7, 8, 9, 10, 11, 12, 13, 14, 15, 16, 17, 18, 5, 19, 20, 21, 22, 23, 24, 25, 26, 27, 28, 29] (by decide +kernel) (by decide +kernel)
set_option maxRecDepth 20000 in
theorem ggL_netPrice_X11_netPrice_p2 : GoodIn wsL_netPrice wsX11_netPrice_r2 := goodIn_r _ [30, 31, 32, 33, 34, 35, 36, 37, 38, 39, 40, 41, 42, 43, 44, 45, 46, 47, 48, 49, 50, 51, 52, 53] (by decide +kernel) (by decide +kernel)
set_option maxRecDepth 20000 in
theorem ggL_netPrice_X11_netPrice_p3 : GoodIn wsL_netPrice wsX11_netPrice_r3 := goodIn_r _ [54, 55, 56, 57, 58, 59, 60, 61, 62, 63, 64, 65, 66, 67, 68, 69, 70, 71, 72, 73, 74, 75, 76, 77] (by decide +kernel) (by decide +kernel)
set_option maxRecDepth 20000 in
theorem ggL_netPrice_X11_netPrice_p4 : GoodIn wsL_netPrice wsX11_netPrice_r4 := goodIn_r _ [78, 79, 80, 81, 82, 83, 84, 85, 86, 87, 88, 89, 90, 91, 92, 93, 94, 95, 96, 97, 98, 99, 100, 101] (by decide +kernel) (by decide +kernel)
set_option maxRecDepth 20000 in
theorem ggL_netPrice_X11_netPrice_p5 : GoodIn wsL_netPrice wsX11_netPrice_r5 := goodIn_r _ [102, 103, 104, 105, 106, 107, 108, 109, 110, 111, 112, 113, 114, 115, 116, 117, 118, 119, 120, 121, 122, 123, 124, 125] (by decide +kernel) (by decide +kernel)
set_option maxRecDepth 20000 in
theorem ggL_netPrice_X11_netPrice_p6 : GoodIn wsL_netPrice wsX11_netPrice_r6 := goodIn_r _ [126, 127, 128, 129, 130, 131, 132, 133, 134, 135, 136, 137, 138, 139, 140, 141, 142, 143, 144, 145, 146, 147, 148, 149] (by decide +kernel) (by decide +kernel)
set_option maxRecDepth 20000 in
theorem ggL_netPrice_X11_netPrice_p7 : GoodIn wsL_netPrice wsX11_netPrice_r7 := goodIn_r _ [150, 151, 152, 153, 154, 155, 156, 157, 158, 159, 160, 161, 162, 163, 164, 165, 166, 167, 168, 169, 170, 171, 172, 173] (by decide +kernel) (by decide +kernel)
set_option maxRecDepth 20000 in
theorem ggL_netPrice_X11_netPrice_p8 : GoodIn wsL_netPrice wsX11_netPrice_r8 := goodIn_r _ [174, 175, 176, 177, 178, 179, 180, 181, 182, 183, 184, 185, 186, 187, 188, 189, 190, 191, 192, 193, 194, 195, 196, 197] (by decide +kernel) (by decide +kernel)
set_option maxRecDepth 20000 in
theorem ggL_netPrice_X11_netPrice_p9 : GoodIn wsL_netPrice wsX11_netPrice_r9 := goodIn_r _ [198, 199, 200, 201, 202, 203, 204, 205, 206, 207, 208, 209, 210, 211, 212, 213, 214, 215, 216, 217, 218, 219, 220, 221] (by decide +kernel) (by decide +kernel)
set_option maxRecDepth 20000 in
theorem ggL_netPrice_X11_netPrice_p10 : GoodIn wsL_netPrice wsX11_netPrice_r10 := goodIn_r _ [222, 223, 224, 225, 226, 227, 228, 229, 230, 231, 232, 233, 234, 235, 236, 237, 238, 239, 240, 241, 242, 243, 244, 245] (by decide +kernel) (by decide +kernel)
set_option maxRecDepth 20000 in
theorem ggL_netPrice_X11_netPrice_p11 : GoodIn wsL_netPrice wsX11_netPrice_r11 := goodIn_r _ [246, 247, 248, 249, 250, 251, 252, 253, 254, 255, 256, 257, 258, 259, 260, 261, 262, 263, 264, 265, 266, 267, 268, 269] (by decide +kernel) (by decide +kernel)
set_option maxRecDepth 20000 in
theorem ggL_netPrice_X11_netPrice_p12 : GoodIn wsL_netPrice wsX11_netPrice_r12 := goodIn_r _ [270, 271, 272, 273, 274, 275, 276, 277, 278, 279, 280, 281, 282, 283, 284, 285, 286, 287, 288, 289, 290, 291, 292, 293] (by decide +kernel) (by decide +kernel)
set_option maxRecDepth 20000 in
theorem ggL_netPrice_X11_netPrice_p13 : GoodIn wsL_netPrice wsX11_netPrice_r13 := goodIn_r _ [294, 295, 296, 297, 298, 299, 300, 301, 302] (by decide +kernel) (by decide +kernel)
set_option maxRecDepth 20000 in
theorem ggL_netPrice_X11_netPrice_p14 : GoodIn wsL_netPrice wsX110 := goodIn_r _ [303, 304, 305, 306, 307, 308, 309] (by decide +kernel) (by decide +kernel)
set_option maxRecDepth 20000 in
theorem ggL_netPrice_X11_netPrice_p15 : GoodIn wsL_netPrice wsX00 := goodIn_r _ [310, 311, 312, 313, 314] (by decide +kernel) (by decide +kernel)
set_option maxRecDepth 20000 in
theorem ggL_netPrice_X11_netPrice_p16 : GoodIn wsL_netPrice wsX80 := goodIn_r _ [315, 316, 317, 318, 319, 320, 321, 322, 323, 324, 325, 326] (by decide +kernel) (by decide +kernel)
set_option maxRecDepth 20000 in
theorem ggL_netPrice_X11_netPrice_p17 : GoodIn wsL_netPrice wsX100 := goodIn_r _ [327, 328, 329, 330, 331] (by decide +kernel) (by decide +kernel)
set_option maxRecDepth 20000 in
theorem ggL_netPrice_X11_netPrice_p18 : GoodIn wsL_netPrice wsX60 := goodIn_r _ [332, 333, 334, 335, 336, 337] (by decide +kernel) (by decide +kernel)
set_option maxRecDepth 20000 in
theorem ggL_netPrice_X11_netPrice_p19 : GoodIn wsL_netPrice wsX20 := goodIn_r _ [338, 339, 340, 341, 342, 343, 344, 345, 346] (by decide +kernel) (by decide +kernel)
set_option maxRecDepth 20000 in
theorem ggL_netPrice_X11_netPrice_p20 : GoodIn wsL_netPrice wsX30 := goodIn_r _ [347, 348, 349, 350] (by decide +kernel) (by decide +kernel)
set_option maxRecDepth 20000 in
theorem ggL_netPrice_X11_netPrice_p21 : GoodIn wsL_netPrice wsX70 := goodIn_r _ [351, 352, 353, 354] (by decide +kernel) (by decide +kernel)
set_option maxRecDepth 20000 in
theorem ggL_netPrice_X11_netPrice_p22 : GoodIn wsL_netPrice wsX90 := goodIn_r _ [355, 356, 357, 358] (by decide +kernel) (by decide +kernel)
set_option maxRecDepth 20000 in
theorem ggL_netPrice_X11_netPrice_p23 : GoodIn wsL_netPrice wsX10 := goodIn_r _ [359, 360, 361, 362] (by decide +kernel) (by decide +kernel)
set_option maxRecDepth 20000 in
theorem ggL_netPrice_X11_netPrice : GoodIn wsL_netPrice wsX11_netPrice := goodIn_ca (goodIn_ca (goodIn_ca (goodIn_app ggL_netPrice_X11_netPrice_p0 (goodIn_app (goodIn_app (goodIn_app (goodIn_app (goodIn_app (goodIn_app (goodIn_app (goodIn_app (goodIn_app (goodIn_app (goodIn_app ggL_netPrice_X11_netPrice_p1 (goodIn_app ggL_netPrice_X11_netPrice_p2 (goodIn_app ggL_netPrice_X11_netPrice_p3 (goodIn_app ggL_netPrice_X11_netPrice_p4 (goodIn_app ggL_netPrice_X11_netPrice_p5 (goodIn_app ggL_netPrice_X11_netPrice_p6 (goodIn_app ggL_netPrice_X11_netPrice_p7 (goodIn_app ggL_netPrice_X11_netPrice_p8 (goodIn_app ggL_netPrice_X11_netPrice_p9 (goodIn_app ggL_netPrice_X11_netPrice_p10 (goodIn_app ggL_netPrice_X11_netPrice_p11 (goodIn_app ggL_netPrice_X11_netPrice_p12 ggL_netPrice_X11_netPrice_p13)))))))))))) ggL_netPrice_X11_netPrice_p14) ggL_netPrice_X11_netPrice_p15) ggL_netPrice_X11_netPrice_p16) ggL_netPrice_X11_netPrice_p17) ggL_netPrice_X11_netPrice_p18) ggL_netPrice_X11_netPrice_p19) ggL_netPrice_X11_netPrice_p20) ggL_netPrice_X11_netPrice_p21) ggL_netPrice_X11_netPrice_p22) ggL_netPrice_X11_netPrice_p23)) (goodIn_sub (fun _ h => List.mem_cons_of_mem _ (List.mem_append_left _ (List.mem_append_right _ h))) (by decide +kernel))) (goodIn_sub (fun _ h => List.mem_cons_of_mem _ (List.mem_append_left _ (List.mem_append_left _ (List.mem_append_right _ h)))) (by decide +kernel))) (goodIn_sub (fun _ h => List.mem_cons_of_mem _ (List.mem_append_right _ h)) (by decide +kernel))
set_option maxRecDepth 20000 in
theorem gL_netPrice_X11_netPrice : GoodIn wsL_netPrice (wsV RL 61 RX11 yX11_netPrice wsX11_netPrice) := goodIn_app (goodIn_of _ (by decide +kernel)) ggL_netPrice_X11_netPrice
theorem dL_netPrice_0 : decode cL_netPrice 0 = .ok (.aload_n 2, 1) := by decide +kernel
theorem dL_netPrice_1 : decode cL_netPrice 1 = .ok (.iconst 0, 1) := by decide +kernel
theorem dL_netPrice_2 : decode cL_netPrice 2 = .ok (.aload_n 0, 1) := by decide +kernel
theorem dL_netPrice_3 : decode cL_netPrice 3 = .ok (.iload_n 1, 1) := by decide +kernel
theorem dL_netPrice_4 : decode cL_netPrice 4 = .ok (.invokevirtual 61, 3) := by decide +kernel
theorem dL_netPrice_7 : decode cL_netPrice 7 = .ok (.i2l, 1) := by decide +kernel
theorem dL_netPrice_8 : decode cL_netPrice 8 = .ok (.lastore, 1) := by decide +kernel
theorem dL_netPrice_9 : decode cL_netPrice 9 = .ok (.goto 6, 3) := by decide +kernel
theorem dL_netPrice_12 : decode cL_netPrice 12 = .ok (.astore_n 3, 1) := by decide +kernel
theorem dL_netPrice_13 : decode cL_netPrice 13 = .ok (.iconst 1, 1) := by decide +kernel
theorem dL_netPrice_14 : decode cL_netPrice 14 = .ok (.ireturn, 1) := by decide +kernel
theorem dL_netPrice_15 : decode cL_netPrice 15 = .ok (.iconst 0, 1) := by decide +kernel
theorem dL_netPrice_16 : decode cL_netPrice 16 = .ok (.ireturn, 1) := by decide +kernel
set_option maxRecDepth 20000 in
theorem ggL_sell_X11_sell_p0 : GoodIn wsL_sell [.code yX11_sell cX11_sell 4 (some .int)] := goodIn_r _ [6] (by decide +kernel) (by decide +kernel)
set_option maxRecDepth 20000 in
theorem ggL_sell_X11_sell_p1 : GoodIn wsL_sell wsX11_sell_r1 := goodIn_r _ [7, 8, 9, 10, 11, 12, 13, 14, 15, 16, 17, 18, 19, 20, 21, 22, 23, 24, 5, 25, 26, 27, 28, 29] (by decide +kernel) (by decide +kernel)
set_option maxRecDepth 20000 in
theorem ggL_sell_X11_sell_p2 : GoodIn wsL_sell wsX11_sell_r2 := goodIn_r _ [30, 31, 32, 33, 34, 35, 36, 37, 38, 39, 40, 41, 42, 43, 44, 45, 46, 47, 48, 49, 50, 51, 52, 53] (by decide +kernel) (by decide +kernel)
set_option maxRecDepth 20000 in
theorem ggL_sell_X11_sell_p3 : GoodIn wsL_sell wsX11_sell_r3 := goodIn_r _ [54, 55, 56, 57, 58, 59, 60, 61, 62, 63, 64, 65, 66, 67, 68, 69, 70, 71, 72, 73, 74, 75, 76, 77] (by decide +kernel) (by decide +kernel)
set_option maxRecDepth 20000 in
theorem ggL_sell_X11_sell_p4 : GoodIn wsL_sell wsX11_sell_r4 := goodIn_r _ [78, 79, 80, 81, 82, 83, 84, 85, 86, 87, 88, 89, 90, 91, 92, 93, 94, 95, 96, 97, 98, 99, 100, 101] (by decide +kernel) (by decide +kernel)
set_option maxRecDepth 20000 in
theorem ggL_sell_X11_sell_p5 : GoodIn wsL_sell wsX11_sell_r5 := goodIn_r _ [102, 103, 104, 105, 106, 107, 108, 109, 110, 111, 112, 113, 114, 115, 116, 117, 118, 119, 120, 121, 122, 123, 124, 125] (by decide +kernel) (by decide +kernel)
set_option maxRecDepth 20000 in
theorem ggL_sell_X11_sell_p6 : GoodIn wsL_sell wsX11_sell_r6 := goodIn_r _ [126, 127, 128, 129, 130, 131, 132, 133, 134, 135, 136, 137, 138, 139, 140, 141, 142, 143, 144, 145, 146, 147, 148, 149] (by decide +kernel) (by decide +kernel)
set_option maxRecDepth 20000 in
theorem ggL_sell_X11_sell_p7 : GoodIn wsL_sell wsX11_sell_r7 := goodIn_r _ [150, 151, 152, 153, 154, 155, 156, 157, 158, 159, 160, 161, 162, 163, 164, 165, 166, 167, 168, 169, 170, 171, 172, 173] (by decide +kernel) (by decide +kernel)
set_option maxRecDepth 20000 in
theorem ggL_sell_X11_sell_p8 : GoodIn wsL_sell wsX11_sell_r8 := goodIn_r _ [174, 175, 176, 177, 178, 179, 180, 181, 182, 183, 184, 185, 186, 187, 188, 189, 190, 191, 192, 193, 194, 195, 196, 197] (by decide +kernel) (by decide +kernel)
set_option maxRecDepth 20000 in
theorem ggL_sell_X11_sell_p9 : GoodIn wsL_sell wsX11_sell_r9 := goodIn_r _ [198, 199, 200, 201, 202, 203, 204, 205, 206, 207, 208, 209, 210, 211, 212, 213, 214, 215, 216, 217, 218, 219, 220, 221] (by decide +kernel) (by decide +kernel)
set_option maxRecDepth 20000 in
theorem ggL_sell_X11_sell_p10 : GoodIn wsL_sell wsX11_sell_r10 := goodIn_r _ [222, 223, 224, 225, 226, 227, 228, 229, 230, 231, 232, 233, 234, 235, 236, 237, 238, 239, 240, 241, 242, 243, 244, 245] (by decide +kernel) (by decide +kernel)
set_option maxRecDepth 20000 in
theorem ggL_sell_X11_sell_p11 : GoodIn wsL_sell wsX11_sell_r11 := goodIn_r _ [246, 247, 248, 249, 250, 251, 252, 253, 254, 255, 256, 257, 258, 259, 260, 261, 262, 263, 264, 265, 266, 267, 268, 269] (by decide +kernel) (by decide +kernel)
set_option maxRecDepth 20000 in
theorem ggL_sell_X11_sell_p12 : GoodIn wsL_sell wsX11_sell_r12 := goodIn_r _ [270, 271, 272, 273, 274, 275, 276, 277, 278, 279, 280, 281, 282, 283, 284, 285, 286, 287, 288, 289, 290, 291, 292, 293] (by decide +kernel) (by decide +kernel)
set_option maxRecDepth 20000 in
theorem ggL_sell_X11_sell_p13 : GoodIn wsL_sell wsX11_sell_r13 := goodIn_r _ [294, 295, 296, 297, 298, 299, 300, 301, 302, 303, 304, 305, 306, 307, 308, 309, 310, 311, 312, 313, 314, 315, 316, 317] (by decide +kernel) (by decide +kernel)
set_option maxRecDepth 20000 in
theorem ggL_sell_X11_sell_p14 : GoodIn wsL_sell wsX11_sell_r14 := goodIn_r _ [318, 319, 320, 321, 322, 323, 324, 325, 326, 327, 328, 329, 330, 331, 332, 333, 334, 335, 336, 337, 338, 339, 340] (by decide +kernel) (by decide +kernel)
set_option maxRecDepth 20000 in
theorem ggL_sell_X11_sell_p15 : GoodIn wsL_sell wsX110 := goodIn_r _ [341, 342, 343, 344, 345, 346, 347] (by decide +kernel) (by decide +kernel)
set_option maxRecDepth 20000 in
theorem ggL_sell_X11_sell_p16 : GoodIn wsL_sell wsX00 := goodIn_r _ [348, 349, 350, 351, 352] (by decide +kernel) (by decide +kernel)
set_option maxRecDepth 20000 in
theorem ggL_sell_X11_sell_p17 : GoodIn wsL_sell wsX80 := goodIn_r _ [353, 354, 355, 356, 357, 358, 359, 360, 361, 362, 363, 364] (by decide +kernel) (by decide +kernel)
set_option maxRecDepth 20000 in
theorem ggL_sell_X11_sell_p18 : GoodIn wsL_sell wsX100 := goodIn_r _ [365, 366, 367, 368, 369] (by decide +kernel) (by decide +kernel)
set_option maxRecDepth 20000 in
theorem ggL_sell_X11_sell_p19 : GoodIn wsL_sell wsX60 := goodIn_r _ [370, 371, 372, 373, 374, 375] (by decide +kernel) (by decide +kernel)
set_option maxRecDepth 20000 in
theorem ggL_sell_X11_sell_p20 : GoodIn wsL_sell wsX20 := goodIn_r _ [376, 377, 378, 379, 380, 381, 382, 383, 384] (by decide +kernel) (by decide +kernel)
set_option maxRecDepth 20000 in
theorem ggL_sell_X11_sell_p21 : GoodIn wsL_sell wsX30 := goodIn_r _ [385, 386, 387, 388] (by decide +kernel) (by decide +kernel)
set_option maxRecDepth 20000 in
theorem ggL_sell_X11_sell_p22 : GoodIn wsL_sell wsX70 := goodIn_r _ [389, 390, 391, 392] (by decide +kernel) (by decide +kernel)
set_option maxRecDepth 20000 in
theorem ggL_sell_X11_sell_p23 : GoodIn wsL_sell wsX90 := goodIn_r _ [393, 394, 395, 396] (by decide +kernel) (by decide +kernel)
set_option maxRecDepth 20000 in
theorem ggL_sell_X11_sell_p24 : GoodIn wsL_sell wsX10 := goodIn_r _ [397, 398, 399, 400] (by decide +kernel) (by decide +kernel)
set_option maxRecDepth 20000 in
theorem ggL_sell_X11_sell_p25 : GoodIn wsL_sell wsX40 := goodIn_r _ [401, 402, 403, 404, 405, 406, 407, 408, 409] (by decide +kernel) (by decide +kernel)
set_option maxRecDepth 20000 in
theorem ggL_sell_X11_sell : GoodIn wsL_sell wsX11_sell := goodIn_ca (goodIn_ca (goodIn_ca (goodIn_app ggL_sell_X11_sell_p0 (goodIn_app (goodIn_app (goodIn_app (goodIn_app (goodIn_app (goodIn_app (goodIn_app (goodIn_app (goodIn_app (goodIn_app (goodIn_app (goodIn_app ggL_sell_X11_sell_p1 (goodIn_app ggL_sell_X11_sell_p2 (goodIn_app ggL_sell_X11_sell_p3 (goodIn_app ggL_sell_X11_sell_p4 (goodIn_app ggL_sell_X11_sell_p5 (goodIn_app ggL_sell_X11_sell_p6 (goodIn_app ggL_sell_X11_sell_p7 (goodIn_app ggL_sell_X11_sell_p8 (goodIn_app ggL_sell_X11_sell_p9 (goodIn_app ggL_sell_X11_sell_p10 (goodIn_app ggL_sell_X11_sell_p11 (goodIn_app ggL_sell_X11_sell_p12 (goodIn_app ggL_sell_X11_sell_p13 ggL_sell_X11_sell_p14))))))))))))) ggL_sell_X11_sell_p15) ggL_sell_X11_sell_p16) ggL_sell_X11_sell_p17) ggL_sell_X11_sell_p18) ggL_sell_X11_sell_p19) ggL_sell_X11_sell_p20) ggL_sell_X11_sell_p21) ggL_sell_X11_sell_p22) ggL_sell_X11_sell_p23) ggL_sell_X11_sell_p24) ggL_sell_X11_sell_p25)) (goodIn_sub (fun _ h => List.mem_cons_of_mem _ (List.mem_append_left _ (List.mem_append_right _ h))) (by decide +kernel))) (goodIn_sub (fun _ h => List.mem_cons_of_mem _ (List.mem_append_left _ (List.mem_append_left _ (List.mem_append_right _ h)))) (by decide +kernel))) (goodIn_sub (fun _ h => List.mem_cons_of_mem _ (List.mem_append_right _ h)) (by decide +kernel))
set_option maxRecDepth 20000 in
theorem gL_sell_X11_sell : GoodIn wsL_sell (wsV RL 64 RX11 yX11_sell wsX11_sell) := goodIn_app (goodIn_of _ (by decide +kernel)) ggL_sell_X11_sell
theorem dL_sell_0 : decode cL_sell 0 = .ok (.aload_n 1, 1) := by decide +kernel
theorem dL_sell_1 : decode cL_sell 1 = .ok (.iconst 0, 1) := by decide +kernel
theorem dL_sell_2 : decode cL_sell 2 = .ok (.aload_n 0, 1) := by decide +kernel
theorem dL_sell_3 : decode cL_sell 3 = .ok (.invokevirtual 64, 3) := by decide +kernel
theorem dL_sell_6 : decode cL_sell 6 = .ok (.i2l, 1) := by decide +kernel
theorem dL_sell_7 : decode cL_sell 7 = .ok (.lastore, 1) := by decide +kernel
theorem dL_sell_8 : decode cL_sell 8 = .ok (.goto 6, 3) := by decide +kernel
theorem dL_sell_11 : decode cL_sell 11 = .ok (.astore_n 2, 1) := by decide +kernel
theorem dL_sell_12 : decode cL_sell 12 = .ok (.iconst 1, 1) := by decide +kernel
theorem dL_sell_13 : decode cL_sell 13 = .ok (.ireturn, 1) := by decide +kernel
theorem dL_sell_14 : decode cL_sell 14 = .ok (.iconst 0, 1) := by decide +kernel
theorem dL_sell_15 : decode cL_sell 15 = .ok (.ireturn, 1) := by decide +kernel
set_option maxRecDepth 20000 in
theorem ggL_giveBack_X11_giveBack : GoodIn wsL_giveBack wsX11_giveBack := goodIn_ca (goodIn_ca (goodIn_ca (goodIn_r _ [7, 8, 9, 10, 11, 12, 13, 14, 15, 16, 17, 18, 19, 20, 21, 22, 23, 24, 25, 26, 27, 28, 29, 30, 6, 31, 32, 33, 34, 35, 36, 37, 38, 39, 40, 41, 42, 43, 44, 45, 46, 47] (by decide +kernel) (by decide +kernel)) (goodIn_sub (fun _ h => List.mem_cons_of_mem _ (List.mem_append_left _ (List.mem_append_right _ h))) (by decide +kernel))) (goodIn_sub (fun _ h => List.mem_cons_of_mem _ (List.mem_append_right _ h)) (by decide +kernel))) (goodIn_sub (fun _ h => List.mem_cons_of_mem _ (List.mem_append_left _ (List.mem_append_left _ (List.mem_append_right _ h)))) (by decide +kernel))
set_option maxRecDepth 20000 in
theorem gL_giveBack_X11_giveBack : GoodIn wsL_giveBack (wsV RL 67 RX11 yX11_giveBack wsX11_giveBack) := goodIn_app (goodIn_of _ (by decide +kernel)) ggL_giveBack_X11_giveBack
theorem dL_giveBack_0 : decode cL_giveBack 0 = .ok (.aload_n 2, 1) := by decide +kernel
theorem dL_giveBack_1 : decode cL_giveBack 1 = .ok (.iconst 0, 1) := by decide +kernel
theorem dL_giveBack_2 : decode cL_giveBack 2 = .ok (.aload_n 0, 1) := by decide +kernel
theorem dL_giveBack_3 : decode cL_giveBack 3 = .ok (.iload_n 1, 1) := by decide +kernel
theorem dL_giveBack_4 : decode cL_giveBack 4 = .ok (.invokevirtual 67, 3) := by decide +kernel
theorem dL_giveBack_7 : decode cL_giveBack 7 = .ok (.i2l, 1) := by decide +kernel
theorem dL_giveBack_8 : decode cL_giveBack 8 = .ok (.lastore, 1) := by decide +kernel
theorem dL_giveBack_9 : decode cL_giveBack 9 = .ok (.goto 9, 3) := by decide +kernel
theorem dL_giveBack_12 : decode cL_giveBack 12 = .ok (.astore_n 3, 1) := by decide +kernel
theorem dL_giveBack_13 : decode cL_giveBack 13 = .ok (.iconst 1, 1) := by decide +kernel
theorem dL_giveBack_14 : decode cL_giveBack 14 = .ok (.ireturn, 1) := by decide +kernel
theorem dL_giveBack_15 : decode cL_giveBack 15 = .ok (.astore_n 3, 1) := by decide +kernel
theorem dL_giveBack_16 : decode cL_giveBack 16 = .ok (.iconst 2, 1) := by decide +kernel
theorem dL_giveBack_17 : decode cL_giveBack 17 = .ok (.ireturn, 1) := by decide +kernel
theorem dL_giveBack_18 : decode cL_giveBack 18 = .ok (.iconst 0, 1) := by decide +kernel
theorem dL_giveBack_19 : decode cL_giveBack 19 = .ok (.ireturn, 1) := by decide +kernel
set_option maxRecDepth 20000 in
theorem ggL_soldTo_X11_soldTo : GoodIn wsL_soldTo wsX11_soldTo := goodIn_ca (goodIn_ca (goodIn_r _ [6, 7, 8, 9, 10, 11, 12, 13, 14, 15, 16, 17, 18, 19, 20, 21, 5, 22, 23, 24, 25, 26, 27, 28, 29, 30, 31, 32, 33, 34, 35, 36, 37, 38] (by decide +kernel) (by decide +kernel)) (goodIn_sub (fun _ h => List.mem_cons_of_mem _ (List.mem_append_right _ h)) (by decide +kernel))) (goodIn_sub (fun _ h => List.mem_cons_of_mem _ (List.mem_append_left _ (List.mem_append_right _ h))) (by decide +kernel))
set_option maxRecDepth 20000 in
theorem gL_soldTo_X11_soldTo : GoodIn wsL_soldTo (wsV RL 70 RX11 yX11_soldTo wsX11_soldTo) := goodIn_app (goodIn_of _ (by decide +kernel)) ggL_soldTo_X11_soldTo
theorem dL_soldTo_0 : decode cL_soldTo 0 = .ok (.aload_n 2, 1) := by decide +kernel
theorem dL_soldTo_1 : decode cL_soldTo 1 = .ok (.iconst 0, 1) := by decide +kernel
theorem dL_soldTo_2 : decode cL_soldTo 2 = .ok (.aload_n 0, 1) := by decide +kernel
theorem dL_soldTo_3 : decode cL_soldTo 3 = .ok (.iload_n 1, 1) := by decide +kernel
theorem dL_soldTo_4 : decode cL_soldTo 4 = .ok (.invokevirtual 70, 3) := by decide +kernel
theorem dL_soldTo_7 : decode cL_soldTo 7 = .ok (.i2l, 1) := by decide +kernel
theorem dL_soldTo_8 : decode cL_soldTo 8 = .ok (.lastore, 1) := by decide +kernel
theorem dL_soldTo_9 : decode cL_soldTo 9 = .ok (.goto 6, 3) := by decide +kernel
theorem dL_soldTo_12 : decode cL_soldTo 12 = .ok (.astore_n 3, 1) := by decide +kernel
theorem dL_soldTo_13 : decode cL_soldTo 13 = .ok (.iconst 1, 1) := by decide +kernel
theorem dL_soldTo_14 : decode cL_soldTo 14 = .ok (.ireturn, 1) := by decide +kernel
theorem dL_soldTo_15 : decode cL_soldTo 15 = .ok (.iconst 0, 1) := by decide +kernel
theorem dL_soldTo_16 : decode cL_soldTo 16 = .ok (.ireturn, 1) := by decide +kernel
set_option maxRecDepth 20000 in
theorem ggL_discountShare_X11_discountShare : GoodIn wsL_discountShare wsX11_discountShare := goodIn_ca (goodIn_r _ [6, 7, 8, 9, 10, 11, 12, 13, 14, 15, 16, 17, 18, 19, 20, 21, 22, 23, 24, 25, 26, 27, 28, 29, 30, 31, 32, 33, 34, 35, 36] (by decide +kernel) (by decide +kernel)) (goodIn_sub (fun _ h => List.mem_cons_of_mem _ (List.mem_append_right _ h)) (by decide +kernel))
set_option maxRecDepth 20000 in
theorem gL_discountShare_X11_discountShare : GoodIn wsL_discountShare (wsV RL 73 RX11 yX11_discountShare wsX11_discountShare) := goodIn_app (goodIn_of _ (by decide +kernel)) ggL_discountShare_X11_discountShare
theorem dL_discountShare_0 : decode cL_discountShare 0 = .ok (.aload_n 1, 1) := by decide +kernel
theorem dL_discountShare_1 : decode cL_discountShare 1 = .ok (.iconst 0, 1) := by decide +kernel
theorem dL_discountShare_2 : decode cL_discountShare 2 = .ok (.aload_n 0, 1) := by decide +kernel
theorem dL_discountShare_3 : decode cL_discountShare 3 = .ok (.invokevirtual 73, 3) := by decide +kernel
theorem dL_discountShare_6 : decode cL_discountShare 6 = .ok (.f2d, 1) := by decide +kernel
theorem dL_discountShare_7 : decode cL_discountShare 7 = .ok (.dastore, 1) := by decide +kernel
theorem dL_discountShare_8 : decode cL_discountShare 8 = .ok (.goto 6, 3) := by decide +kernel
theorem dL_discountShare_11 : decode cL_discountShare 11 = .ok (.astore_n 2, 1) := by decide +kernel
theorem dL_discountShare_12 : decode cL_discountShare 12 = .ok (.iconst 1, 1) := by decide +kernel
theorem dL_discountShare_13 : decode cL_discountShare 13 = .ok (.ireturn, 1) := by decide +kernel
theorem dL_discountShare_14 : decode cL_discountShare 14 = .ok (.iconst 0, 1) := by decide +kernel
theorem dL_discountShare_15 : decode cL_discountShare 15 = .ok (.ireturn, 1) := by decide +kernel
set_option maxRecDepth 20000 in
theorem ggL_meanNetPrice_X11_meanNetPrice : GoodIn wsL_meanNetPrice wsX11_meanNetPrice := goodIn_ca (goodIn_r _ [6, 7, 8, 9, 10, 11, 12, 13, 14, 15, 16, 17, 18, 19, 20, 21, 22, 23, 24, 25, 26, 27, 28, 29, 30, 31, 32, 33, 34, 35, 36] (by decide +kernel) (by decide +kernel)) (goodIn_sub (fun _ h => List.mem_cons_of_mem _ (List.mem_append_right _ h)) (by decide +kernel))
set_option maxRecDepth 20000 in
theorem gL_meanNetPrice_X11_meanNetPrice : GoodIn wsL_meanNetPrice (wsV RL 79 RX11 yX11_meanNetPrice wsX11_meanNetPrice) := goodIn_app (goodIn_of _ (by decide +kernel)) ggL_meanNetPrice_X11_meanNetPrice
theorem dL_meanNetPrice_0 : decode cL_meanNetPrice 0 = .ok (.aload_n 1, 1) := by decide +kernel
theorem dL_meanNetPrice_1 : decode cL_meanNetPrice 1 = .ok (.iconst 0, 1) := by decide +kernel
theorem dL_meanNetPrice_2 : decode cL_meanNetPrice 2 = .ok (.aload_n 0, 1) := by decide +kernel
theorem dL_meanNetPrice_3 : decode cL_meanNetPrice 3 = .ok (.invokevirtual 79, 3) := by decide +kernel
theorem dL_meanNetPrice_6 : decode cL_meanNetPrice 6 = .ok (.dastore, 1) := by decide +kernel
theorem dL_meanNetPrice_7 : decode cL_meanNetPrice 7 = .ok (.goto 6, 3) := by decide +kernel
theorem dL_meanNetPrice_10 : decode cL_meanNetPrice 10 = .ok (.astore_n 2, 1) := by decide +kernel
theorem dL_meanNetPrice_11 : decode cL_meanNetPrice 11 = .ok (.iconst 1, 1) := by decide +kernel
theorem dL_meanNetPrice_12 : decode cL_meanNetPrice 12 = .ok (.ireturn, 1) := by decide +kernel
theorem dL_meanNetPrice_13 : decode cL_meanNetPrice 13 = .ok (.iconst 0, 1) := by decide +kernel
theorem dL_meanNetPrice_14 : decode cL_meanNetPrice 14 = .ok (.ireturn, 1) := by decide +kernel
set_option maxRecDepth 20000 in
theorem ggL_law_X11_init : GoodIn wsL_law wsX11_init := goodIn_r _ [10, 11, 12, 13, 14, 15, 16, 17, 18, 19, 20, 21, 22, 23, 24, 25, 26, 27, 28, 29, 30, 31, 32, 33, 34, 35, 36, 37, 38, 39, 40, 41, 42, 43, 44, 45, 46, 47, 48, 49, 50, 51, 52, 53, 54, 55, 56, 57, 58, 59, 60, 61, 62, 63, 64, 65, 66, 67, 68, 69, 70, 71, 72, 73, 74, 75, 76, 77, 78, 79, 80, 81, 82, 83, 84, 85, 86, 87, 1035, 1036, 1037, 1038, 1039, 991, 992, 993, 994, 995, 996, 997, 1040, 1041, 1042, 1043, 1044, 1045, 1046, 1047, 1048, 1049, 1050, 1051, 1052, 1053, 1054, 1055, 1056, 1057, 1058, 1059, 1060, 1061, 1062, 1063, 1064, 1065, 1066, 1067, 1068, 1069, 1070, 1071, 1072, 1073, 1074, 1075] (by decide +kernel) (by decide +kernel)
set_option maxRecDepth 20000 in
theorem gL_law_X11_init : GoodIn wsL_law (wsX11_init) := ggL_law_X11_init
set_option maxRecDepth 20000 in
theorem ggL_law_X12_init : GoodIn wsL_law wsX12_init := goodIn_r _ [90, 91, 12, 13, 37, 92, 93, 94, 95, 96, 97, 98, 99, 100, 101, 102, 103, 104, 105, 106, 107, 108, 109, 110, 111, 112, 113, 114, 115, 116, 117, 83, 118, 998, 999, 1000, 1001, 1002, 1003, 1004, 1005, 1006, 1007, 1008, 1009, 1010, 1011, 1012, 1013, 1014, 1015, 1016, 1017, 1018, 1019, 1020, 1021, 1022, 1023, 1024, 1025, 1026, 1027, 1028, 1029, 1030, 1031, 1032, 1033, 1034] (by decide +kernel) (by decide +kernel)
set_option maxRecDepth 20000 in
theorem gL_law_X12_init : GoodIn wsL_law (wsX12_init) := ggL_law_X12_init
set_option maxRecDepth 20000 in
theorem ggL_law_L_put : GoodIn wsL_law wsL_put := goodIn_ca (goodIn_ca (goodIn_ca (goodIn_r _ [122, 123, 124, 125, 126, 127, 2, 128, 129, 130, 131, 132, 17, 133, 134, 135, 136, 137, 138, 139, 16, 140, 141, 142, 143, 144, 145, 146, 38, 39, 40, 147, 148, 991, 992, 993, 994, 995, 996, 997, 1035, 1036, 1037, 1038, 1039] (by decide +kernel) (by decide +kernel)) (goodIn_sub (fun _ h => List.mem_append_left _ (List.mem_append_left _ (List.mem_append_left _ (List.mem_append_left _ (List.mem_append_left _ (List.mem_append_left _ (List.mem_append_left _ (List.mem_append_right _ h)))))))) (by decide +kernel))) (goodIn_sub (fun _ h => List.mem_append_left _ (List.mem_append_left _ (List.mem_append_left _ (List.mem_append_left _ (List.mem_append_left _ (List.mem_append_left _ (List.mem_append_right _ h))))))) (by decide +kernel))) (goodIn_sub (fun _ h => List.mem_append_left _ (List.mem_append_left _ (List.mem_append_left _ (List.mem_append_left _ (List.mem_append_left _ (List.mem_append_right _ h)))))) (by decide +kernel))
set_option maxRecDepth 20000 in
theorem gL_law_L_put : GoodIn wsL_law (va_wsS RL 87 yL_put wsL_put) := goodIn_app (goodIn_of _ (by decide +kernel)) ggL_law_L_put
set_option maxRecDepth 20000 in
theorem ggL_law_X12_put : GoodIn wsL_law wsX12_put := goodIn_ca (goodIn_r _ [152, 153, 154, 155, 92, 93, 97, 156, 157, 158, 159, 5, 160, 107, 161, 162, 163, 998, 999, 1000, 1001, 1002, 1003, 1004, 1005, 1006, 1007, 1008, 1009, 1010, 1011, 1012, 1013, 1014, 1015, 1016, 1017, 1018, 1019, 1020, 1021, 1022, 1023, 1024, 1025, 1026, 1027, 1028, 1029, 1030, 1031, 1032, 1033, 1034] (by decide +kernel) (by decide +kernel)) (goodIn_sub (fun _ h => List.mem_append_left _ (List.mem_append_left _ (List.mem_append_left _ (List.mem_append_left _ (List.mem_append_left _ (List.mem_append_left _ (List.mem_append_left _ (List.mem_append_right _ h)))))))) (by decide +kernel))
set_option maxRecDepth 20000 in
theorem gL_law_X12_put : GoodIn wsL_law (wsV RL 92 RX12 yX12_put wsX12_put) := goodIn_app (goodIn_of _ (by decide +kernel)) ggL_law_X12_put
set_option maxRecDepth 20000 in
theorem ggL_law_X12_thrown : GoodIn wsL_law wsX12_thrown := goodIn_r _ [167, 155, 998, 999, 1000, 1001, 1002, 1003, 1004, 1005, 1006, 1007, 1008, 1009, 1010, 1011, 1012, 1013, 1014, 1015, 1016, 1017, 1018, 1019, 1020, 1021, 1022, 1023, 1024, 1025, 1026, 1027, 1028, 1029, 1030, 1031, 1032, 1033, 1034] (by decide +kernel) (by decide +kernel)
set_option maxRecDepth 20000 in
theorem gL_law_X12_thrown : GoodIn wsL_law (wsV RL 93 RX12 yX12_thrown wsX12_thrown) := goodIn_app (goodIn_of _ (by decide +kernel)) ggL_law_X12_thrown
set_option maxRecDepth 20000 in
theorem ggL_law_L_takeOut : GoodIn wsL_law wsL_takeOut := goodIn_ca (goodIn_ca (goodIn_r _ [170, 171, 172, 173, 174, 2, 175, 176, 177, 17, 133, 178, 179, 180, 16, 181, 141, 38, 182, 183, 184, 185, 186, 187, 39, 40, 147, 148, 188, 189, 190, 191, 991, 992, 993, 994, 995, 996, 997, 1035, 1036, 1037, 1038, 1039] (by decide +kernel) (by decide +kernel)) (goodIn_sub (fun _ h => List.mem_append_left _ (List.mem_append_left _ (List.mem_append_left _ (List.mem_append_left _ (List.mem_append_left _ (List.mem_append_left _ (List.mem_append_left _ (List.mem_append_right _ h)))))))) (by decide +kernel))) (goodIn_sub (fun _ h => List.mem_append_left _ (List.mem_append_left _ (List.mem_append_left _ (List.mem_append_left _ (List.mem_append_right _ h))))) (by decide +kernel))
set_option maxRecDepth 20000 in
theorem gL_law_L_takeOut : GoodIn wsL_law (va_wsS RL 96 yL_takeOut wsL_takeOut) := goodIn_app (goodIn_of _ (by decide +kernel)) ggL_law_L_takeOut
set_option maxRecDepth 20000 in
theorem ggL_law_X12_takeOut : GoodIn wsL_law wsX12_takeOut := goodIn_ca (goodIn_r _ [195, 155, 97, 156, 153, 196, 197, 198, 5, 199, 154, 161, 162, 163, 157, 158, 159, 160, 107, 998, 999, 1000, 1001, 1002, 1003, 1004, 1005, 1006, 1007, 1008, 1009, 1010, 1011, 1012, 1013, 1014, 1015, 1016, 1017, 1018, 1019, 1020, 1021, 1022, 1023, 1024, 1025, 1026, 1027, 1028, 1029, 1030, 1031, 1032, 1033, 1034] (by decide +kernel) (by decide +kernel)) (goodIn_sub (fun _ h => List.mem_append_left _ (List.mem_append_left _ (List.mem_append_left _ (List.mem_append_left _ (List.mem_append_left _ (List.mem_append_left _ (List.mem_append_left _ (List.mem_append_right _ h)))))))) (by decide +kernel))
set_option maxRecDepth 20000 in
theorem gL_law_X12_takeOut : GoodIn wsL_law (wsV RL 99 RX12 yX12_takeOut wsX12_takeOut) := goodIn_app (goodIn_of _ (by decide +kernel)) ggL_law_X12_takeOut
set_option maxRecDepth 20000 in
theorem ggL_law_L_setCustomer : GoodIn wsL_law wsL_setCustomer := goodIn_ca (goodIn_ca (goodIn_r _ [202, 123, 203, 204, 205, 2, 206, 129, 130, 207, 133, 134, 135, 136, 991, 992, 993, 994, 995, 996, 997] (by decide +kernel) (by decide +kernel)) (goodIn_sub (fun _ h => List.mem_append_left _ (List.mem_append_left _ (List.mem_append_left _ (List.mem_append_left _ (List.mem_append_left _ (List.mem_append_left _ (List.mem_append_left _ (List.mem_append_right _ h)))))))) (by decide +kernel))) (goodIn_sub (fun _ h => List.mem_append_left _ (List.mem_append_left _ (List.mem_append_left _ (List.mem_append_left _ (List.mem_append_left _ (List.mem_append_left _ (List.mem_append_right _ h))))))) (by decide +kernel))
set_option maxRecDepth 20000 in
theorem gL_law_L_setCustomer : GoodIn wsL_law (va_wsS RL 100 yL_setCustomer wsL_setCustomer) := goodIn_app (goodIn_of _ (by decide +kernel)) ggL_law_L_setCustomer
set_option maxRecDepth 20000 in
theorem ggL_law_X12_setCustomer : GoodIn wsL_law wsX12_setCustomer := goodIn_r _ [211, 155, 212, 156, 161, 162, 5, 163, 998, 999, 1000, 1001, 1002, 1003, 1004, 1005, 1006, 1007, 1008, 1009, 1010, 1011, 1012, 1013, 1014, 1015, 1016, 1017, 1018, 1019, 1020, 1021, 1022, 1023, 1024, 1025, 1026, 1027, 1028, 1029, 1030, 1031, 1032, 1033, 1034] (by decide +kernel) (by decide +kernel)
set_option maxRecDepth 20000 in
theorem gL_law_X12_setCustomer : GoodIn wsL_law (wsV RL 102 RX12 yX12_setCustomer wsX12_setCustomer) := goodIn_app (goodIn_of _ (by decide +kernel)) ggL_law_X12_setCustomer
set_option maxRecDepth 20000 in
theorem ggL_law_X11_items : GoodIn wsL_law wsX11_items := goodIn_r _ [216, 17, 188, 189, 190, 16, 191, 141, 991, 992, 993, 994, 995, 996, 997, 1035, 1036, 1037, 1038, 1039] (by decide +kernel) (by decide +kernel)
set_option maxRecDepth 20000 in
theorem gL_law_X11_items : GoodIn wsL_law (wsV RL 103 RX11 yX11_items wsX11_items) := goodIn_app (goodIn_of _ (by decide +kernel)) ggL_law_X11_items
set_option maxRecDepth 20000 in
theorem ggL_law_X12_items : GoodIn wsL_law wsX12_items := goodIn_ca (goodIn_r _ [220, 155, 153, 157, 158, 159, 5, 160, 154, 97, 107, 998, 999, 1000, 1001, 1002, 1003, 1004, 1005, 1006, 1007, 1008, 1009, 1010, 1011, 1012, 1013, 1014, 1015, 1016, 1017, 1018, 1019, 1020, 1021, 1022, 1023, 1024, 1025, 1026, 1027, 1028, 1029, 1030, 1031, 1032, 1033, 1034] (by decide +kernel) (by decide +kernel)) (goodIn_sub (fun _ h => List.mem_append_left _ (List.mem_append_left _ (List.mem_append_left _ (List.mem_append_left _ (List.mem_append_left _ (List.mem_append_left _ (List.mem_append_left _ (List.mem_append_right _ h)))))))) (by decide +kernel))
set_option maxRecDepth 20000 in
theorem gL_law_X12_items : GoodIn wsL_law (wsV RL 106 RX12 yX12_items wsX12_items) := goodIn_app (goodIn_of _ (by decide +kernel)) ggL_law_X12_items
set_option maxRecDepth 20000 in
theorem ggL_law_X11_sum : GoodIn wsL_law wsX11_sum := goodIn_ca (goodIn_r _ [224, 17, 225, 226, 227, 16, 228, 141, 229, 2, 230, 231, 232, 233, 234, 40, 235, 236, 182, 183, 991, 992, 993, 994, 995, 996, 997, 1035, 1036, 1037, 1038, 1039] (by decide +kernel) (by decide +kernel)) (goodIn_sub (fun _ h => List.mem_append_left _ (List.mem_append_left _ (List.mem_append_left _ (List.mem_append_left _ (List.mem_append_left _ (List.mem_append_left _ (List.mem_append_left _ (List.mem_append_right _ h)))))))) (by decide +kernel))
set_option maxRecDepth 20000 in
theorem gL_law_X11_sum : GoodIn wsL_law (wsV RL 107 RX11 yX11_sum wsX11_sum) := goodIn_app (goodIn_of _ (by decide +kernel)) ggL_law_X11_sum
set_option maxRecDepth 20000 in
theorem ggL_law_X12_sum : GoodIn wsL_law wsX12_sum := goodIn_ca (goodIn_r _ [240, 155, 241, 242, 243, 5, 244, 153, 93, 107, 157, 158, 159, 160, 154, 97, 998, 999, 1000, 1001, 1002, 1003, 1004, 1005, 1006, 1007, 1008, 1009, 1010, 1011, 1012, 1013, 1014, 1015, 1016, 1017, 1018, 1019, 1020, 1021, 1022, 1023, 1024, 1025, 1026, 1027, 1028, 1029, 1030, 1031, 1032, 1033, 1034] (by decide +kernel) (by decide +kernel)) (goodIn_sub (fun _ h => List.mem_append_left _ (List.mem_append_left _ (List.mem_append_left _ (List.mem_append_left _ (List.mem_append_left _ (List.mem_append_left _ (List.mem_append_left _ (List.mem_append_right _ h)))))))) (by decide +kernel))
set_option maxRecDepth 20000 in
theorem gL_law_X12_sum : GoodIn wsL_law (wsV RL 110 RX12 yX12_sum wsX12_sum) := goodIn_app (goodIn_of _ (by decide +kernel)) ggL_law_X12_sum
set_option maxRecDepth 20000 in
theorem ggL_law_L_addPercentage_p0 : GoodIn wsL_law [.codeWith yL_addPercentage cL_addPercentage 7 (some .int) [(0, 14, 17, 13), (0, 14, 21, 15)]] := goodIn_r _ [247] (by decide +kernel) (by decide +kernel)
set_option maxRecDepth 20000 in
theorem ggL_law_L_addPercentage_p1 : GoodIn wsL_law wsL_addPercentage_r1 := goodIn_r _ [123, 124, 248, 249, 250, 2, 251, 129, 130, 131, 132, 21, 252, 253, 254, 134, 135, 136, 255, 256, 257, 258, 259, 260] (by decide +kernel) (by decide +kernel)
set_option maxRecDepth 20000 in
theorem ggL_law_L_addPercentage_p2 : GoodIn wsL_law wsL_addPercentage_r2 := goodIn_r _ [20, 261, 262, 263, 264, 265, 266, 267, 268, 269, 270, 271, 272, 12, 13, 273, 274, 275, 276, 277, 278, 133, 279, 280] (by decide +kernel) (by decide +kernel)
set_option maxRecDepth 20000 in
theorem ggL_law_L_addPercentage_p3 : GoodIn wsL_law wsL_addPercentage_r3 := goodIn_r _ [281, 282, 45, 46, 47, 48, 283, 284, 285, 286, 287, 288, 289, 290, 182, 183, 147, 148, 291, 292, 293, 294, 295, 296] (by decide +kernel) (by decide +kernel)
set_option maxRecDepth 20000 in
theorem ggL_law_L_addPercentage_p4 : GoodIn wsL_law wsL_addPercentage_r4 := goodIn_r _ [297, 298, 299, 300, 301, 302, 303, 304, 305, 306, 307, 308, 309, 310, 311, 312, 313, 314, 315] (by decide +kernel) (by decide +kernel)
set_option maxRecDepth 20000 in
theorem ggL_law_L_addPercentage_p5 : GoodIn wsL_law wsX110 := goodIn_r _ [991, 992, 993, 994, 995, 996, 997] (by decide +kernel) (by decide +kernel)
set_option maxRecDepth 20000 in
theorem ggL_law_L_addPercentage_p6 : GoodIn wsL_law wsX70 := goodIn_r _ [1076, 1077, 1078, 1079] (by decide +kernel) (by decide +kernel)
set_option maxRecDepth 20000 in
theorem ggL_law_L_addPercentage_p7 : GoodIn wsL_law wsX60 := goodIn_r _ [1040, 1041, 1042, 1043, 1044, 1045] (by decide +kernel) (by decide +kernel)
set_option maxRecDepth 20000 in
theorem ggL_law_L_addPercentage_p8 : GoodIn wsL_law wsX20 := goodIn_r _ [1080, 1081, 1082, 1083, 1084, 1085, 1086, 1087, 1088] (by decide +kernel) (by decide +kernel)
set_option maxRecDepth 20000 in
theorem ggL_law_L_addPercentage_p9 : GoodIn wsL_law wsX30 := goodIn_r _ [1089, 1090, 1091, 1092] (by decide +kernel) (by decide +kernel)
set_option maxRecDepth 20000 in
theorem ggL_law_L_addPercentage_p10 : GoodIn wsL_law wsX90 := goodIn_r _ [1093, 1094, 1095, 1096] (by decide +kernel) (by decide +kernel)
set_option maxRecDepth 20000 in
theorem ggL_law_L_addPercentage : GoodIn wsL_law wsL_addPercentage := goodIn_ca (goodIn_ca (goodIn_ca (goodIn_app ggL_law_L_addPercentage_p0 (goodIn_app (goodIn_app (goodIn_app (goodIn_app (goodIn_app (goodIn_app (goodIn_app ggL_law_L_addPercentage_p1 (goodIn_app ggL_law_L_addPercentage_p2 (goodIn_app ggL_law_L_addPercentage_p3 ggL_law_L_addPercentage_p4))) ggL_law_L_addPercentage_p5) ggL_law_L_addPercentage_p6) ggL_law_L_addPercentage_p7) ggL_law_L_addPercentage_p8) ggL_law_L_addPercentage_p9) ggL_law_L_addPercentage_p10)) (goodIn_sub (fun _ h => List.mem_append_left _ (List.mem_append_left _ (List.mem_append_left _ (List.mem_append_left _ (List.mem_append_left _ (List.mem_append_left _ (List.mem_append_left _ (List.mem_append_right _ h)))))))) (by decide +kernel))) (goodIn_sub (fun _ h => List.mem_append_left _ (List.mem_append_left _ (List.mem_append_left _ (List.mem_append_left _ (List.mem_append_left _ (List.mem_append_left _ (List.mem_append_right _ h))))))) (by decide +kernel))) (goodIn_sub (fun _ h => List.mem_append_left _ (List.mem_append_left _ (List.mem_append_left _ (List.mem_append_left _ (List.mem_append_left _ (List.mem_append_right _ h)))))) (by decide +kernel))
set_option maxRecDepth 20000 in
theorem gL_law_L_addPercentage : GoodIn wsL_law (va_wsS RL 111 yL_addPercentage wsL_addPercentage) := goodIn_app (goodIn_of _ (by decide +kernel)) ggL_law_L_addPercentage
set_option maxRecDepth 20000 in
theorem ggL_law_X12_addPercentage : GoodIn wsL_law wsX12_addPercentage := goodIn_ca (goodIn_r _ [319, 161, 162, 5, 163, 320, 321, 322, 323, 324, 155, 98, 99, 100, 101, 103, 104, 156, 998, 999, 1000, 1001, 1002, 1003, 1004, 1005, 1006, 1007, 1008, 1009, 1010, 1011, 1012, 1013, 1014, 1015, 1016, 1017, 1018, 1019, 1020, 1021, 1022, 1023, 1024, 1025, 1026, 1027, 1028, 1029, 1030, 1031, 1032, 1033, 1034] (by decide +kernel) (by decide +kernel)) (goodIn_sub (fun _ h => List.mem_append_left _ (List.mem_append_left _ (List.mem_append_left _ (List.mem_append_left _ (List.mem_append_left _ (List.mem_append_left _ (List.mem_append_left _ (List.mem_append_right _ h)))))))) (by decide +kernel))
set_option maxRecDepth 20000 in
theorem gL_law_X12_addPercentage : GoodIn wsL_law (wsV RL 114 RX12 yX12_addPercentage wsX12_addPercentage) := goodIn_app (goodIn_of _ (by decide +kernel)) ggL_law_X12_addPercentage
set_option maxRecDepth 20000 in
theorem ggL_law_L_addFreeItem_p0 : GoodIn wsL_law [.codeWith yL_addFreeItem cL_addFreeItem 7 (some .int) [(0, 14, 17, 13), (0, 14, 21, 15)]] := goodIn_r _ [327] (by decide +kernel) (by decide +kernel)
set_option maxRecDepth 20000 in
theorem ggL_law_L_addFreeItem_p1 : GoodIn wsL_law wsL_addFreeItem_r1 := goodIn_r _ [123, 124, 328, 329, 330, 2, 331, 129, 130, 131, 132, 21, 332, 333, 334, 134, 135, 136, 255, 256, 257, 258, 259, 260] (by decide +kernel) (by decide +kernel)
set_option maxRecDepth 20000 in
theorem ggL_law_L_addFreeItem_p2 : GoodIn wsL_law wsL_addFreeItem_r2 := goodIn_r _ [20, 261, 262, 335, 336, 337, 338, 339, 340, 269, 270, 271, 272, 12, 13, 273, 274, 275, 276, 277, 278, 133, 279, 280] (by decide +kernel) (by decide +kernel)
set_option maxRecDepth 20000 in
theorem ggL_law_L_addFreeItem_p3 : GoodIn wsL_law wsL_addFreeItem_r3 := goodIn_r _ [281, 282, 45, 46, 47, 48, 283, 284, 285, 286, 287, 288, 289, 290, 182, 183, 147, 148, 291, 292, 293, 294, 295, 296] (by decide +kernel) (by decide +kernel)
set_option maxRecDepth 20000 in
theorem ggL_law_L_addFreeItem_p4 : GoodIn wsL_law wsL_addFreeItem_r4 := goodIn_r _ [297, 298, 299, 300, 301, 302, 303, 304, 305, 306, 307, 308, 309, 310, 311, 312, 313, 314, 315] (by decide +kernel) (by decide +kernel)
set_option maxRecDepth 20000 in
theorem ggL_law_L_addFreeItem_p5 : GoodIn wsL_law wsX110 := goodIn_r _ [991, 992, 993, 994, 995, 996, 997] (by decide +kernel) (by decide +kernel)
set_option maxRecDepth 20000 in
theorem ggL_law_L_addFreeItem_p6 : GoodIn wsL_law wsX30 := goodIn_r _ [1089, 1090, 1091, 1092] (by decide +kernel) (by decide +kernel)
set_option maxRecDepth 20000 in
theorem ggL_law_L_addFreeItem_p7 : GoodIn wsL_law wsX60 := goodIn_r _ [1040, 1041, 1042, 1043, 1044, 1045] (by decide +kernel) (by decide +kernel)
set_option maxRecDepth 20000 in
theorem ggL_law_L_addFreeItem_p8 : GoodIn wsL_law wsX20 := goodIn_r _ [1080, 1081, 1082, 1083, 1084, 1085, 1086, 1087, 1088] (by decide +kernel) (by decide +kernel)
set_option maxRecDepth 20000 in
theorem ggL_law_L_addFreeItem_p9 : GoodIn wsL_law wsX70 := goodIn_r _ [1076, 1077, 1078, 1079] (by decide +kernel) (by decide +kernel)
set_option maxRecDepth 20000 in
theorem ggL_law_L_addFreeItem_p10 : GoodIn wsL_law wsX90 := goodIn_r _ [1093, 1094, 1095, 1096] (by decide +kernel) (by decide +kernel)
set_option maxRecDepth 20000 in
theorem ggL_law_L_addFreeItem : GoodIn wsL_law wsL_addFreeItem := goodIn_ca (goodIn_ca (goodIn_ca (goodIn_app ggL_law_L_addFreeItem_p0 (goodIn_app (goodIn_app (goodIn_app (goodIn_app (goodIn_app (goodIn_app (goodIn_app ggL_law_L_addFreeItem_p1 (goodIn_app ggL_law_L_addFreeItem_p2 (goodIn_app ggL_law_L_addFreeItem_p3 ggL_law_L_addFreeItem_p4))) ggL_law_L_addFreeItem_p5) ggL_law_L_addFreeItem_p6) ggL_law_L_addFreeItem_p7) ggL_law_L_addFreeItem_p8) ggL_law_L_addFreeItem_p9) ggL_law_L_addFreeItem_p10)) (goodIn_sub (fun _ h => List.mem_append_left _ (List.mem_append_left _ (List.mem_append_left _ (List.mem_append_left _ (List.mem_append_left _ (List.mem_append_left _ (List.mem_append_left _ (List.mem_append_right _ h)))))))) (by decide +kernel))) (goodIn_sub (fun _ h => List.mem_append_left _ (List.mem_append_left _ (List.mem_append_left _ (List.mem_append_left _ (List.mem_append_left _ (List.mem_append_left _ (List.mem_append_right _ h))))))) (by decide +kernel))) (goodIn_sub (fun _ h => List.mem_append_left _ (List.mem_append_left _ (List.mem_append_left _ (List.mem_append_left _ (List.mem_append_left _ (List.mem_append_right _ h)))))) (by decide +kernel))
set_option maxRecDepth 20000 in
theorem gL_law_L_addFreeItem : GoodIn wsL_law (va_wsS RL 115 yL_addFreeItem wsL_addFreeItem) := goodIn_app (goodIn_of _ (by decide +kernel)) ggL_law_L_addFreeItem
set_option maxRecDepth 20000 in
theorem ggL_law_X12_addFreeItem : GoodIn wsL_law wsX12_addFreeItem := goodIn_ca (goodIn_r _ [344, 161, 162, 5, 163, 320, 321, 322, 323, 324, 155, 98, 99, 100, 101, 103, 104, 156, 998, 999, 1000, 1001, 1002, 1003, 1004, 1005, 1006, 1007, 1008, 1009, 1010, 1011, 1012, 1013, 1014, 1015, 1016, 1017, 1018, 1019, 1020, 1021, 1022, 1023, 1024, 1025, 1026, 1027, 1028, 1029, 1030, 1031, 1032, 1033, 1034] (by decide +kernel) (by decide +kernel)) (goodIn_sub (fun _ h => List.mem_append_left _ (List.mem_append_left _ (List.mem_append_left _ (List.mem_append_left _ (List.mem_append_left _ (List.mem_append_left _ (List.mem_append_left _ (List.mem_append_right _ h)))))))) (by decide +kernel))
set_option maxRecDepth 20000 in
theorem gL_law_X12_addFreeItem : GoodIn wsL_law (wsV RL 117 RX12 yX12_addFreeItem wsX12_addFreeItem) := goodIn_app (goodIn_of _ (by decide +kernel)) ggL_law_X12_addFreeItem
set_option maxRecDepth 20000 in
theorem ggL_law_L_addBundle_p0 : GoodIn wsL_law [.codeWith yL_addBundle cL_addBundle 9 (some .int) [(0, 18, 21, 13), (0, 18, 25, 15)]] := goodIn_r _ [347] (by decide +kernel) (by decide +kernel)
set_option maxRecDepth 20000 in
theorem ggL_law_L_addBundle_p1 : GoodIn wsL_law wsL_addBundle_r1 := goodIn_r _ [123, 124, 348, 349, 350, 2, 351, 129, 130, 131, 132, 21, 352, 353, 354, 134, 135, 136, 255, 256, 257, 258, 259, 260] (by decide +kernel) (by decide +kernel)
set_option maxRecDepth 20000 in
theorem ggL_law_L_addBundle_p2 : GoodIn wsL_law wsL_addBundle_r2 := goodIn_r _ [20, 261, 262, 355, 356, 357, 358, 359, 360, 361, 362, 363, 364, 365, 269, 270, 271, 272, 12, 13, 273, 274, 275, 276] (by decide +kernel) (by decide +kernel)
set_option maxRecDepth 20000 in
theorem ggL_law_L_addBundle_p3 : GoodIn wsL_law wsL_addBundle_r3 := goodIn_r _ [277, 278, 133, 279, 280, 281, 282, 45, 46, 47, 48, 283, 284, 285, 286, 287, 288, 289, 290, 182, 183, 147, 148, 291] (by decide +kernel) (by decide +kernel)
set_option maxRecDepth 20000 in
theorem ggL_law_L_addBundle_p4 : GoodIn wsL_law wsL_addBundle_r4 := goodIn_r _ [292, 293, 294, 295, 296, 297, 298, 299, 300, 301, 302, 303, 304, 305, 306, 307, 308, 309, 310, 311, 312, 313, 314, 315] (by decide +kernel) (by decide +kernel)
set_option maxRecDepth 20000 in
theorem ggL_law_L_addBundle_p5 : GoodIn wsL_law wsX110 := goodIn_r _ [991, 992, 993, 994, 995, 996, 997] (by decide +kernel) (by decide +kernel)
set_option maxRecDepth 20000 in
theorem ggL_law_L_addBundle_p6 : GoodIn wsL_law wsX20 := goodIn_r _ [1080, 1081, 1082, 1083, 1084, 1085, 1086, 1087, 1088] (by decide +kernel) (by decide +kernel)
set_option maxRecDepth 20000 in
theorem ggL_law_L_addBundle_p7 : GoodIn wsL_law wsX60 := goodIn_r _ [1040, 1041, 1042, 1043, 1044, 1045] (by decide +kernel) (by decide +kernel)
set_option maxRecDepth 20000 in
theorem ggL_law_L_addBundle_p8 : GoodIn wsL_law wsX30 := goodIn_r _ [1089, 1090, 1091, 1092] (by decide +kernel) (by decide +kernel)
set_option maxRecDepth 20000 in
theorem ggL_law_L_addBundle_p9 : GoodIn wsL_law wsX70 := goodIn_r _ [1076, 1077, 1078, 1079] (by decide +kernel) (by decide +kernel)
set_option maxRecDepth 20000 in
theorem ggL_law_L_addBundle_p10 : GoodIn wsL_law wsX90 := goodIn_r _ [1093, 1094, 1095, 1096] (by decide +kernel) (by decide +kernel)
set_option maxRecDepth 20000 in
theorem ggL_law_L_addBundle : GoodIn wsL_law wsL_addBundle := goodIn_ca (goodIn_ca (goodIn_ca (goodIn_app ggL_law_L_addBundle_p0 (goodIn_app (goodIn_app (goodIn_app (goodIn_app (goodIn_app (goodIn_app (goodIn_app ggL_law_L_addBundle_p1 (goodIn_app ggL_law_L_addBundle_p2 (goodIn_app ggL_law_L_addBundle_p3 ggL_law_L_addBundle_p4))) ggL_law_L_addBundle_p5) ggL_law_L_addBundle_p6) ggL_law_L_addBundle_p7) ggL_law_L_addBundle_p8) ggL_law_L_addBundle_p9) ggL_law_L_addBundle_p10)) (goodIn_sub (fun _ h => List.mem_append_left _ (List.mem_append_left _ (List.mem_append_left _ (List.mem_append_left _ (List.mem_append_left _ (List.mem_append_left _ (List.mem_append_left _ (List.mem_append_right _ h)))))))) (by decide +kernel))) (goodIn_sub (fun _ h => List.mem_append_left _ (List.mem_append_left _ (List.mem_append_left _ (List.mem_append_left _ (List.mem_append_left _ (List.mem_append_left _ (List.mem_append_right _ h))))))) (by decide +kernel))) (goodIn_sub (fun _ h => List.mem_append_left _ (List.mem_append_left _ (List.mem_append_left _ (List.mem_append_left _ (List.mem_append_left _ (List.mem_append_right _ h)))))) (by decide +kernel))
set_option maxRecDepth 20000 in
theorem gL_law_L_addBundle : GoodIn wsL_law (va_wsS RL 118 yL_addBundle wsL_addBundle) := goodIn_app (goodIn_of _ (by decide +kernel)) ggL_law_L_addBundle
set_option maxRecDepth 20000 in
theorem ggL_law_X12_addBundle : GoodIn wsL_law wsX12_addBundle := goodIn_ca (goodIn_r _ [369, 155, 102, 161, 162, 5, 163, 320, 321, 322, 323, 324, 98, 99, 100, 101, 103, 104, 156, 998, 999, 1000, 1001, 1002, 1003, 1004, 1005, 1006, 1007, 1008, 1009, 1010, 1011, 1012, 1013, 1014, 1015, 1016, 1017, 1018, 1019, 1020, 1021, 1022, 1023, 1024, 1025, 1026, 1027, 1028, 1029, 1030, 1031, 1032, 1033, 1034] (by decide +kernel) (by decide +kernel)) (goodIn_sub (fun _ h => List.mem_append_left _ (List.mem_append_left _ (List.mem_append_left _ (List.mem_append_left _ (List.mem_append_left _ (List.mem_append_left _ (List.mem_append_left _ (List.mem_append_right _ h)))))))) (by decide +kernel))
set_option maxRecDepth 20000 in
theorem gL_law_X12_addBundle : GoodIn wsL_law (wsV RL 121 RX12 yX12_addBundle wsX12_addBundle) := goodIn_app (goodIn_of _ (by decide +kernel)) ggL_law_X12_addBundle
set_option maxRecDepth 20000 in
theorem ggL_law_L_addThreshold_p0 : GoodIn wsL_law [.codeWith yL_addThreshold cL_addThreshold 7 (some .int) [(0, 14, 17, 13), (0, 14, 21, 15)]] := goodIn_r _ [372] (by decide +kernel) (by decide +kernel)
set_option maxRecDepth 20000 in
theorem ggL_law_L_addThreshold_p1 : GoodIn wsL_law wsL_addThreshold_r1 := goodIn_r _ [123, 124, 373, 374, 375, 2, 376, 129, 130, 131, 132, 21, 377, 378, 301, 134, 135, 136, 255, 256, 257, 258, 259, 260] (by decide +kernel) (by decide +kernel)
set_option maxRecDepth 20000 in
theorem ggL_law_L_addThreshold_p2 : GoodIn wsL_law wsL_addThreshold_r2 := goodIn_r _ [20, 261, 262, 379, 380, 381, 303, 315, 382, 269, 270, 271, 272, 12, 13, 273, 274, 275, 276, 277, 278, 133, 279, 280] (by decide +kernel) (by decide +kernel)
set_option maxRecDepth 20000 in
theorem ggL_law_L_addThreshold_p3 : GoodIn wsL_law wsL_addThreshold_r3 := goodIn_r _ [281, 282, 45, 46, 47, 48, 283, 284, 285, 286, 287, 288, 289, 290, 182, 183, 147, 148, 291, 292, 293, 294, 295, 296] (by decide +kernel) (by decide +kernel)
set_option maxRecDepth 20000 in
theorem ggL_law_L_addThreshold_p4 : GoodIn wsL_law wsL_addThreshold_r4 := goodIn_r _ [297, 298, 299, 300, 302, 304, 305, 306, 307, 308, 309, 310, 311, 312, 313, 314] (by decide +kernel) (by decide +kernel)
set_option maxRecDepth 20000 in
theorem ggL_law_L_addThreshold_p5 : GoodIn wsL_law wsX110 := goodIn_r _ [991, 992, 993, 994, 995, 996, 997] (by decide +kernel) (by decide +kernel)
set_option maxRecDepth 20000 in
theorem ggL_law_L_addThreshold_p6 : GoodIn wsL_law wsX90 := goodIn_r _ [1093, 1094, 1095, 1096] (by decide +kernel) (by decide +kernel)
set_option maxRecDepth 20000 in
theorem ggL_law_L_addThreshold_p7 : GoodIn wsL_law wsX60 := goodIn_r _ [1040, 1041, 1042, 1043, 1044, 1045] (by decide +kernel) (by decide +kernel)
set_option maxRecDepth 20000 in
theorem ggL_law_L_addThreshold_p8 : GoodIn wsL_law wsX20 := goodIn_r _ [1080, 1081, 1082, 1083, 1084, 1085, 1086, 1087, 1088] (by decide +kernel) (by decide +kernel)
set_option maxRecDepth 20000 in
theorem ggL_law_L_addThreshold_p9 : GoodIn wsL_law wsX30 := goodIn_r _ [1089, 1090, 1091, 1092] (by decide +kernel) (by decide +kernel)
set_option maxRecDepth 20000 in
theorem ggL_law_L_addThreshold_p10 : GoodIn wsL_law wsX70 := goodIn_r _ [1076, 1077, 1078, 1079] (by decide +kernel) (by decide +kernel)
set_option maxRecDepth 20000 in
theorem ggL_law_L_addThreshold : GoodIn wsL_law wsL_addThreshold := goodIn_ca (goodIn_ca (goodIn_ca (goodIn_app ggL_law_L_addThreshold_p0 (goodIn_app (goodIn_app (goodIn_app (goodIn_app (goodIn_app (goodIn_app (goodIn_app ggL_law_L_addThreshold_p1 (goodIn_app ggL_law_L_addThreshold_p2 (goodIn_app ggL_law_L_addThreshold_p3 ggL_law_L_addThreshold_p4))) ggL_law_L_addThreshold_p5) ggL_law_L_addThreshold_p6) ggL_law_L_addThreshold_p7) ggL_law_L_addThreshold_p8) ggL_law_L_addThreshold_p9) ggL_law_L_addThreshold_p10)) (goodIn_sub (fun _ h => List.mem_append_left _ (List.mem_append_left _ (List.mem_append_left _ (List.mem_append_left _ (List.mem_append_left _ (List.mem_append_left _ (List.mem_append_left _ (List.mem_append_right _ h)))))))) (by decide +kernel))) (goodIn_sub (fun _ h => List.mem_append_left _ (List.mem_append_left _ (List.mem_append_left _ (List.mem_append_left _ (List.mem_append_left _ (List.mem_append_left _ (List.mem_append_right _ h))))))) (by decide +kernel))) (goodIn_sub (fun _ h => List.mem_append_left _ (List.mem_append_left _ (List.mem_append_left _ (List.mem_append_left _ (List.mem_append_left _ (List.mem_append_right _ h)))))) (by decide +kernel))
set_option maxRecDepth 20000 in
theorem gL_law_L_addThreshold : GoodIn wsL_law (va_wsS RL 122 yL_addThreshold wsL_addThreshold) := goodIn_app (goodIn_of _ (by decide +kernel)) ggL_law_L_addThreshold
set_option maxRecDepth 20000 in
theorem ggL_law_X12_addThreshold : GoodIn wsL_law wsX12_addThreshold := goodIn_ca (goodIn_r _ [386, 161, 162, 5, 163, 320, 321, 322, 323, 324, 155, 98, 99, 100, 101, 103, 104, 156, 998, 999, 1000, 1001, 1002, 1003, 1004, 1005, 1006, 1007, 1008, 1009, 1010, 1011, 1012, 1013, 1014, 1015, 1016, 1017, 1018, 1019, 1020, 1021, 1022, 1023, 1024, 1025, 1026, 1027, 1028, 1029, 1030, 1031, 1032, 1033, 1034] (by decide +kernel) (by decide +kernel)) (goodIn_sub (fun _ h => List.mem_append_left _ (List.mem_append_left _ (List.mem_append_left _ (List.mem_append_left _ (List.mem_append_left _ (List.mem_append_left _ (List.mem_append_left _ (List.mem_append_right _ h)))))))) (by decide +kernel))
set_option maxRecDepth 20000 in
theorem gL_law_X12_addThreshold : GoodIn wsL_law (wsV RL 124 RX12 yX12_addThreshold wsX12_addThreshold) := goodIn_app (goodIn_of _ (by decide +kernel)) ggL_law_X12_addThreshold
set_option maxRecDepth 20000 in
theorem ggL_law_L_left_p0 : GoodIn wsL_law [.codeWith yL_left cL_left 4 (some .int) [(0, 9, 12, 43)]] := goodIn_r _ [389] (by decide +kernel) (by decide +kernel)
set_option maxRecDepth 20000 in
theorem ggL_law_L_left_p1 : GoodIn wsL_law wsL_left_r1 := goodIn_r _ [390, 391, 392, 393, 2, 394, 395, 396, 21, 207, 397, 398, 399, 20, 400, 262, 401, 402, 403, 404, 49, 405, 406, 407] (by decide +kernel) (by decide +kernel)
set_option maxRecDepth 20000 in
theorem ggL_law_L_left_p2 : GoodIn wsL_law wsL_left_r2 := goodIn_r _ [408, 45, 409, 410, 411, 412, 270, 413, 273, 414, 415, 416, 182, 183] (by decide +kernel) (by decide +kernel)
set_option maxRecDepth 20000 in
theorem ggL_law_L_left_p3 : GoodIn wsL_law wsX110 := goodIn_r _ [991, 992, 993, 994, 995, 996, 997] (by decide +kernel) (by decide +kernel)
set_option maxRecDepth 20000 in
theorem ggL_law_L_left_p4 : GoodIn wsL_law wsX60 := goodIn_r _ [1040, 1041, 1042, 1043, 1044, 1045] (by decide +kernel) (by decide +kernel)
set_option maxRecDepth 20000 in
theorem ggL_law_L_left_p5 : GoodIn wsL_law wsX20 := goodIn_r _ [1080, 1081, 1082, 1083, 1084, 1085, 1086, 1087, 1088] (by decide +kernel) (by decide +kernel)
set_option maxRecDepth 20000 in
theorem ggL_law_L_left_p6 : GoodIn wsL_law wsX30 := goodIn_r _ [1089, 1090, 1091, 1092] (by decide +kernel) (by decide +kernel)
set_option maxRecDepth 20000 in
theorem ggL_law_L_left_p7 : GoodIn wsL_law wsX70 := goodIn_r _ [1076, 1077, 1078, 1079] (by decide +kernel) (by decide +kernel)
set_option maxRecDepth 20000 in
theorem ggL_law_L_left_p8 : GoodIn wsL_law wsX90 := goodIn_r _ [1093, 1094, 1095, 1096] (by decide +kernel) (by decide +kernel)
set_option maxRecDepth 20000 in
theorem ggL_law_L_left : GoodIn wsL_law wsL_left := goodIn_ca (goodIn_ca (goodIn_app ggL_law_L_left_p0 (goodIn_app (goodIn_app (goodIn_app (goodIn_app (goodIn_app (goodIn_app (goodIn_app ggL_law_L_left_p1 ggL_law_L_left_p2) ggL_law_L_left_p3) ggL_law_L_left_p4) ggL_law_L_left_p5) ggL_law_L_left_p6) ggL_law_L_left_p7) ggL_law_L_left_p8)) (goodIn_sub (fun _ h => List.mem_append_left _ (List.mem_append_left _ (List.mem_append_left _ (List.mem_append_left _ (List.mem_append_left _ (List.mem_append_left _ (List.mem_append_left _ (List.mem_append_right _ h)))))))) (by decide +kernel))) (goodIn_sub (fun _ h => List.mem_append_left _ (List.mem_append_left _ (List.mem_append_left _ (List.mem_append_right _ h)))) (by decide +kernel))
set_option maxRecDepth 20000 in
theorem gL_law_L_left : GoodIn wsL_law (va_wsS RL 125 yL_left wsL_left) := goodIn_app (goodIn_of _ (by decide +kernel)) ggL_law_L_left
set_option maxRecDepth 20000 in
theorem ggL_law_X12_left : GoodIn wsL_law wsX12_left := goodIn_ca (goodIn_r _ [420, 324, 155, 161, 162, 5, 163, 421, 422, 423, 424, 103, 106, 212, 998, 999, 1000, 1001, 1002, 1003, 1004, 1005, 1006, 1007, 1008, 1009, 1010, 1011, 1012, 1013, 1014, 1015, 1016, 1017, 1018, 1019, 1020, 1021, 1022, 1023, 1024, 1025, 1026, 1027, 1028, 1029, 1030, 1031, 1032, 1033, 1034] (by decide +kernel) (by decide +kernel)) (goodIn_sub (fun _ h => List.mem_append_left _ (List.mem_append_left _ (List.mem_append_left _ (List.mem_append_left _ (List.mem_append_left _ (List.mem_append_left _ (List.mem_append_left _ (List.mem_append_right _ h)))))))) (by decide +kernel))
set_option maxRecDepth 20000 in
theorem gL_law_X12_left : GoodIn wsL_law (wsV RL 127 RX12 yX12_left wsX12_left) := goodIn_app (goodIn_of _ (by decide +kernel)) ggL_law_X12_left
set_option maxRecDepth 20000 in
theorem ggL_law_X11_offers : GoodIn wsL_law wsX11_offers := goodIn_r _ [428, 21, 429, 430, 431, 20, 432, 262, 991, 992, 993, 994, 995, 996, 997, 1040, 1041, 1042, 1043, 1044, 1045] (by decide +kernel) (by decide +kernel)
set_option maxRecDepth 20000 in
theorem gL_law_X11_offers : GoodIn wsL_law (wsV RL 128 RX11 yX11_offers wsX11_offers) := goodIn_app (goodIn_of _ (by decide +kernel)) ggL_law_X11_offers
set_option maxRecDepth 20000 in
theorem ggL_law_X12_offers : GoodIn wsL_law wsX12_offers := goodIn_r _ [436, 155, 324, 998, 999, 1000, 1001, 1002, 1003, 1004, 1005, 1006, 1007, 1008, 1009, 1010, 1011, 1012, 1013, 1014, 1015, 1016, 1017, 1018, 1019, 1020, 1021, 1022, 1023, 1024, 1025, 1026, 1027, 1028, 1029, 1030, 1031, 1032, 1033, 1034] (by decide +kernel) (by decide +kernel)
set_option maxRecDepth 20000 in
theorem gL_law_X12_offers : GoodIn wsL_law (wsV RL 131 RX12 yX12_offers wsX12_offers) := goodIn_app (goodIn_of _ (by decide +kernel)) ggL_law_X12_offers
set_option maxRecDepth 20000 in
theorem ggL_law_X11_bestDiscount_p0 : GoodIn wsL_law [.code yX11_bestDiscount cX11_bestDiscount 1 (some .int)] := goodIn_r _ [440] (by decide +kernel) (by decide +kernel)
set_option maxRecDepth 20000 in
theorem ggL_law_X11_bestDiscount_p1 : GoodIn wsL_law wsX11_bestDiscount_r1 := goodIn_r _ [25, 441, 442, 443, 2, 444, 133, 207, 29, 445, 446, 447, 24, 448, 57, 63, 64, 58, 449, 450, 451, 452, 453, 454] (by decide +kernel) (by decide +kernel)
set_option maxRecDepth 20000 in
theorem ggL_law_X11_bestDiscount_p2 : GoodIn wsL_law wsX11_bestDiscount_r2 := goodIn_r _ [56, 455, 456, 71, 457, 189, 190, 16, 191, 141, 147, 148, 458, 430, 431, 20, 432, 262, 459, 402, 403, 404, 49, 405] (by decide +kernel) (by decide +kernel)
set_option maxRecDepth 20000 in
theorem ggL_law_X11_bestDiscount_p3 : GoodIn wsL_law wsX11_bestDiscount_r3 := goodIn_r _ [406, 407, 408, 45, 409, 410, 411, 412, 270, 413, 273, 414, 415, 416, 182, 183, 460, 461, 462, 463, 464, 229, 230, 465] (by decide +kernel) (by decide +kernel)
set_option maxRecDepth 20000 in
theorem ggL_law_X11_bestDiscount_p4 : GoodIn wsL_law wsX11_bestDiscount_r4 := goodIn_r _ [226, 227, 228, 466, 467, 468, 469, 470, 471, 472, 473, 474, 475, 476, 477, 354, 478, 360, 479, 480, 481, 334, 482, 339] (by decide +kernel) (by decide +kernel)
set_option maxRecDepth 20000 in
theorem ggL_law_X11_bestDiscount_p5 : GoodIn wsL_law wsX11_bestDiscount_r5 := goodIn_r _ [483, 484, 254, 485, 486, 487, 488, 489, 490, 491, 492, 493, 358, 362, 359, 363, 364, 361, 494, 495, 496, 497, 39, 235] (by decide +kernel) (by decide +kernel)
set_option maxRecDepth 20000 in
theorem ggL_law_X11_bestDiscount_p6 : GoodIn wsL_law wsX11_bestDiscount_r6 := goodIn_r _ [236, 498, 232, 233, 234, 40, 499, 500, 501, 502, 338, 503, 504, 505, 506, 507, 508, 509, 510, 511, 512, 513, 514, 266] (by decide +kernel) (by decide +kernel)
set_option maxRecDepth 20000 in
theorem ggL_law_X11_bestDiscount_p7 : GoodIn wsL_law wsX11_bestDiscount_r7 := goodIn_r _ [267, 515, 516, 517, 518, 519, 520, 521, 522, 68, 69, 70, 523, 524, 525, 526, 527, 528, 529, 59, 530, 531, 532, 533] (by decide +kernel) (by decide +kernel)
set_option maxRecDepth 20000 in
theorem ggL_law_X11_bestDiscount_p8 : GoodIn wsL_law wsX11_bestDiscount_r8 := goodIn_r _ [48, 534, 535, 536, 537, 60, 538, 539, 540, 541, 542, 543, 544, 545, 546, 547, 548, 549, 550, 551, 552, 553, 554, 555] (by decide +kernel) (by decide +kernel)
set_option maxRecDepth 20000 in
theorem ggL_law_X11_bestDiscount_p9 : GoodIn wsL_law wsX11_bestDiscount_r9 := goodIn_r _ [556, 557, 61, 558, 559, 560, 561, 562, 563, 564, 565, 566, 567, 568, 569, 46, 570, 571, 572, 573, 47, 574, 575, 576] (by decide +kernel) (by decide +kernel)
set_option maxRecDepth 20000 in
theorem ggL_law_X11_bestDiscount_p10 : GoodIn wsL_law wsX11_bestDiscount_r10 := goodIn_r _ [577, 578, 579, 580, 581, 582, 583, 584, 585, 586, 62, 587, 588, 589, 590, 591, 592, 593, 594, 595, 596, 597, 598, 599] (by decide +kernel) (by decide +kernel)
set_option maxRecDepth 20000 in
theorem ggL_law_X11_bestDiscount_p11 : GoodIn wsL_law wsX11_bestDiscount_r11 := goodIn_r _ [600, 601, 602, 603, 604, 605, 28, 606, 76, 78, 79, 607, 608, 609, 610, 611, 612, 613, 614, 615, 135, 136, 616, 617] (by decide +kernel) (by decide +kernel)
set_option maxRecDepth 20000 in
theorem ggL_law_X11_bestDiscount_p12 : GoodIn wsL_law wsX11_bestDiscount_r12 := goodIn_r _ [618, 619, 620, 621, 622, 623, 624, 625, 626, 627, 628, 77, 629, 630, 631, 632, 633, 634, 635, 636, 637, 638, 639, 640] (by decide +kernel) (by decide +kernel)
set_option maxRecDepth 20000 in
theorem ggL_law_X11_bestDiscount_p13 : GoodIn wsL_law wsX11_bestDiscount_r13 := goodIn_r _ [641] (by decide +kernel) (by decide +kernel)
set_option maxRecDepth 20000 in
theorem ggL_law_X11_bestDiscount_p14 : GoodIn wsL_law wsX110 := goodIn_r _ [991, 992, 993, 994, 995, 996, 997] (by decide +kernel) (by decide +kernel)
set_option maxRecDepth 20000 in
theorem ggL_law_X11_bestDiscount_p15 : GoodIn wsL_law wsX80 := goodIn_r _ [1046, 1047, 1048, 1049, 1050, 1051, 1052, 1053, 1054, 1055, 1056, 1057] (by decide +kernel) (by decide +kernel)
set_option maxRecDepth 20000 in
theorem ggL_law_X11_bestDiscount_p16 : GoodIn wsL_law wsX100 := goodIn_r _ [1071, 1072, 1073, 1074, 1075] (by decide +kernel) (by decide +kernel)
set_option maxRecDepth 20000 in
theorem ggL_law_X11_bestDiscount_p17 : GoodIn wsL_law wsX00 := goodIn_r _ [1035, 1036, 1037, 1038, 1039] (by decide +kernel) (by decide +kernel)
set_option maxRecDepth 20000 in
theorem ggL_law_X11_bestDiscount_p18 : GoodIn wsL_law wsX60 := goodIn_r _ [1040, 1041, 1042, 1043, 1044, 1045] (by decide +kernel) (by decide +kernel)
set_option maxRecDepth 20000 in
theorem ggL_law_X11_bestDiscount_p19 : GoodIn wsL_law wsX20 := goodIn_r _ [1080, 1081, 1082, 1083, 1084, 1085, 1086, 1087, 1088] (by decide +kernel) (by decide +kernel)
set_option maxRecDepth 20000 in
theorem ggL_law_X11_bestDiscount_p20 : GoodIn wsL_law wsX30 := goodIn_r _ [1089, 1090, 1091, 1092] (by decide +kernel) (by decide +kernel)
set_option maxRecDepth 20000 in
theorem ggL_law_X11_bestDiscount_p21 : GoodIn wsL_law wsX70 := goodIn_r _ [1076, 1077, 1078, 1079] (by decide +kernel) (by decide +kernel)
set_option maxRecDepth 20000 in
theorem ggL_law_X11_bestDiscount_p22 : GoodIn wsL_law wsX90 := goodIn_r _ [1093, 1094, 1095, 1096] (by decide +kernel) (by decide +kernel)
set_option maxRecDepth 20000 in
theorem ggL_law_X11_bestDiscount_p23 : GoodIn wsL_law wsX10 := goodIn_r _ [1058, 1059, 1060, 1061] (by decide +kernel) (by decide +kernel)
set_option maxRecDepth 20000 in
theorem ggL_law_X11_bestDiscount : GoodIn wsL_law wsX11_bestDiscount := goodIn_ca (goodIn_ca (goodIn_app ggL_law_X11_bestDiscount_p0 (goodIn_app (goodIn_app (goodIn_app (goodIn_app (goodIn_app (goodIn_app (goodIn_app (goodIn_app (goodIn_app (goodIn_app (goodIn_app ggL_law_X11_bestDiscount_p1 (goodIn_app ggL_law_X11_bestDiscount_p2 (goodIn_app ggL_law_X11_bestDiscount_p3 (goodIn_app ggL_law_X11_bestDiscount_p4 (goodIn_app ggL_law_X11_bestDiscount_p5 (goodIn_app ggL_law_X11_bestDiscount_p6 (goodIn_app ggL_law_X11_bestDiscount_p7 (goodIn_app ggL_law_X11_bestDiscount_p8 (goodIn_app ggL_law_X11_bestDiscount_p9 (goodIn_app ggL_law_X11_bestDiscount_p10 (goodIn_app ggL_law_X11_bestDiscount_p11 (goodIn_app ggL_law_X11_bestDiscount_p12 ggL_law_X11_bestDiscount_p13)))))))))))) ggL_law_X11_bestDiscount_p14) ggL_law_X11_bestDiscount_p15) ggL_law_X11_bestDiscount_p16) ggL_law_X11_bestDiscount_p17) ggL_law_X11_bestDiscount_p18) ggL_law_X11_bestDiscount_p19) ggL_law_X11_bestDiscount_p20) ggL_law_X11_bestDiscount_p21) ggL_law_X11_bestDiscount_p22) ggL_law_X11_bestDiscount_p23)) (goodIn_sub (fun _ h => List.mem_append_left _ (List.mem_append_left _ (List.mem_append_left _ (List.mem_append_left _ (List.mem_append_left _ (List.mem_append_left _ (List.mem_append_left _ (List.mem_append_right _ h)))))))) (by decide +kernel))) (goodIn_sub (fun _ h => List.mem_append_left _ (List.mem_append_left _ (List.mem_append_right _ h))) (by decide +kernel))
set_option maxRecDepth 20000 in
theorem gL_law_X11_bestDiscount : GoodIn wsL_law (wsV RL 132 RX11 yX11_bestDiscount wsX11_bestDiscount) := goodIn_app (goodIn_of _ (by decide +kernel)) ggL_law_X11_bestDiscount
set_option maxRecDepth 20000 in
theorem ggL_law_X12_bestDiscount_p0 : GoodIn wsL_law [.code yX12_bestDiscount cX12_bestDiscount 1 (some .int)] := goodIn_r _ [645] (by decide +kernel) (by decide +kernel)
set_option maxRecDepth 20000 in
theorem ggL_law_X12_bestDiscount_p1 : GoodIn wsL_law wsX12_bestDiscount_r1 := goodIn_r _ [155, 646, 647, 648, 649, 5, 650, 156, 324, 109, 110, 651, 241, 242, 243, 244, 153, 93, 107, 157, 158, 159, 160, 154] (by decide +kernel) (by decide +kernel)
set_option maxRecDepth 20000 in
theorem ggL_law_X12_bestDiscount_p2 : GoodIn wsL_law wsX12_bestDiscount_r2 := goodIn_r _ [97, 652, 653, 654, 655, 113, 98, 656, 539, 510, 540, 421, 422, 423, 424, 103, 106, 212, 657, 658, 659, 660, 661, 662] (by decide +kernel) (by decide +kernel)
set_option maxRecDepth 20000 in
theorem ggL_law_X12_bestDiscount_p3 : GoodIn wsL_law wsX12_bestDiscount_r3 := goodIn_r _ [663, 664, 665, 467, 468, 469, 470, 471, 472, 666, 667, 668, 669, 100, 101, 670, 671, 672, 673, 92, 674, 675, 676, 677] (by decide +kernel) (by decide +kernel)
set_option maxRecDepth 20000 in
theorem ggL_law_X12_bestDiscount_p4 : GoodIn wsL_law wsX12_bestDiscount_r4 := goodIn_r _ [99, 678, 679, 680, 681, 682, 509, 511, 102, 683, 684, 685, 686, 687, 688, 689, 690, 691, 692, 114, 108, 115, 116, 111] (by decide +kernel) (by decide +kernel)
set_option maxRecDepth 20000 in
theorem ggL_law_X12_bestDiscount_p5 : GoodIn wsL_law wsX12_bestDiscount_r5 := goodIn_r _ [117, 112, 693, 694, 695, 696, 104, 118, 697, 698, 699, 700, 701, 702, 703, 704, 705, 706, 707, 708, 709, 710, 711, 712] (by decide +kernel) (by decide +kernel)
set_option maxRecDepth 20000 in
theorem ggL_law_X12_bestDiscount_p6 : GoodIn wsL_law wsX12_bestDiscount_r6 := goodIn_r _ [713, 714, 715, 716, 717, 718, 719, 720, 94] (by decide +kernel) (by decide +kernel)
set_option maxRecDepth 20000 in
theorem ggL_law_X12_bestDiscount_p7 : GoodIn wsL_law wsX120 := goodIn_r _ [998, 999, 1000, 1001, 1002, 1003, 1004, 1005, 1006, 1007, 1008, 1009, 1010, 1011, 1012, 1013, 1014, 1015, 1016, 1017, 1018, 1019, 1020, 1021, 1022, 1023, 1024, 1025, 1026, 1027, 1028, 1029, 1030, 1031, 1032, 1033, 1034] (by decide +kernel) (by decide +kernel)
set_option maxRecDepth 20000 in
theorem ggL_law_X12_bestDiscount : GoodIn wsL_law wsX12_bestDiscount := goodIn_ca (goodIn_ca (goodIn_app ggL_law_X12_bestDiscount_p0 (goodIn_app (goodIn_app ggL_law_X12_bestDiscount_p1 (goodIn_app ggL_law_X12_bestDiscount_p2 (goodIn_app ggL_law_X12_bestDiscount_p3 (goodIn_app ggL_law_X12_bestDiscount_p4 (goodIn_app ggL_law_X12_bestDiscount_p5 ggL_law_X12_bestDiscount_p6))))) ggL_law_X12_bestDiscount_p7)) (goodIn_sub (fun _ h => List.mem_append_left _ (List.mem_append_left _ (List.mem_append_left _ (List.mem_append_left _ (List.mem_append_left _ (List.mem_append_left _ (List.mem_append_left _ (List.mem_append_right _ h)))))))) (by decide +kernel))) (goodIn_sub (fun _ h => List.mem_append_left _ (List.mem_append_left _ (List.mem_append_right _ h))) (by decide +kernel))
set_option maxRecDepth 20000 in
theorem gL_law_X12_bestDiscount : GoodIn wsL_law (wsV RL 135 RX12 yX12_bestDiscount wsX12_bestDiscount) := goodIn_app (goodIn_of _ (by decide +kernel)) ggL_law_X12_bestDiscount
set_option maxRecDepth 20000 in
theorem ggL_law_L_bestByTrying_p0 : GoodIn wsL_law [.codeWith yL_bestByTrying cL_bestByTrying 3 (some .int) [(0, 8, 11, 49)]] := goodIn_r _ [723] (by decide +kernel) (by decide +kernel)
set_option maxRecDepth 20000 in
theorem ggL_law_L_bestByTrying_p1 : GoodIn wsL_law wsL_bestByTrying_r1 := goodIn_r _ [724, 725, 726, 727, 2, 728, 729, 730, 17, 25, 188, 189, 190, 16, 191, 141, 441, 442, 443, 444, 133, 207, 29, 445] (by decide +kernel) (by decide +kernel)
set_option maxRecDepth 20000 in
theorem ggL_law_L_bestByTrying_p2 : GoodIn wsL_law wsL_bestByTrying_r2 := goodIn_r _ [446, 447, 24, 448, 57, 63, 64, 58, 449, 450, 451, 452, 453, 454, 56, 455, 456, 71, 457, 147, 148, 458, 430, 431] (by decide +kernel) (by decide +kernel)
set_option maxRecDepth 20000 in
theorem ggL_law_L_bestByTrying_p3 : GoodIn wsL_law wsL_bestByTrying_r3 := goodIn_r _ [20, 432, 262, 459, 402, 403, 404, 49, 405, 406, 407, 408, 45, 409, 410, 411, 412, 270, 413, 273, 414, 415, 416, 182] (by decide +kernel) (by decide +kernel)
set_option maxRecDepth 20000 in
theorem ggL_law_L_bestByTrying_p4 : GoodIn wsL_law wsL_bestByTrying_r4 := goodIn_r _ [183, 460, 461, 462, 463, 464, 229, 230, 465, 226, 227, 228, 466, 467, 468, 469, 470, 471, 472, 473, 474, 475, 476, 477] (by decide +kernel) (by decide +kernel)
set_option maxRecDepth 20000 in
theorem ggL_law_L_bestByTrying_p5 : GoodIn wsL_law wsL_bestByTrying_r5 := goodIn_r _ [354, 478, 360, 479, 480, 481, 334, 482, 339, 483, 484, 254, 485, 486, 487, 488, 489, 490, 491, 492, 493, 358, 362, 359] (by decide +kernel) (by decide +kernel)
set_option maxRecDepth 20000 in
theorem ggL_law_L_bestByTrying_p6 : GoodIn wsL_law wsL_bestByTrying_r6 := goodIn_r _ [363, 364, 361, 494, 495, 496, 497, 39, 235, 236, 498, 232, 233, 234, 40, 499, 500, 501, 502, 338, 503, 504, 505, 506] (by decide +kernel) (by decide +kernel)
set_option maxRecDepth 20000 in
theorem ggL_law_L_bestByTrying_p7 : GoodIn wsL_law wsL_bestByTrying_r7 := goodIn_r _ [507, 508, 509, 510, 511, 512, 513, 514, 266, 267, 515, 516, 517, 518, 519, 520, 521, 522, 68, 69, 70, 523, 524, 525] (by decide +kernel) (by decide +kernel)
set_option maxRecDepth 20000 in
theorem ggL_law_L_bestByTrying_p8 : GoodIn wsL_law wsL_bestByTrying_r8 := goodIn_r _ [526, 527, 528, 529, 59, 530, 531, 532, 533, 48, 534, 535, 536, 537, 60, 538, 539, 540, 541, 542, 543, 544, 545, 546] (by decide +kernel) (by decide +kernel)
set_option maxRecDepth 20000 in
theorem ggL_law_L_bestByTrying_p9 : GoodIn wsL_law wsL_bestByTrying_r9 := goodIn_r _ [547, 548, 549, 550, 551, 552, 553, 554, 555, 556, 557, 61, 558, 559, 560, 561, 562, 563, 564, 565, 566, 567, 568, 569] (by decide +kernel) (by decide +kernel)
set_option maxRecDepth 20000 in
theorem ggL_law_L_bestByTrying_p10 : GoodIn wsL_law wsL_bestByTrying_r10 := goodIn_r _ [46, 570, 571, 572, 573, 47, 574, 575, 576, 577, 578, 579, 580, 581, 582, 583, 584, 585, 586, 62, 587, 588, 589, 590] (by decide +kernel) (by decide +kernel)
set_option maxRecDepth 20000 in
theorem ggL_law_L_bestByTrying_p11 : GoodIn wsL_law wsL_bestByTrying_r11 := goodIn_r _ [591, 592, 593, 594, 595, 596, 597, 598, 599, 600, 601, 602, 603, 604, 605, 28, 606, 76, 78, 79, 607, 608, 609, 610] (by decide +kernel) (by decide +kernel)
set_option maxRecDepth 20000 in
theorem ggL_law_L_bestByTrying_p12 : GoodIn wsL_law wsL_bestByTrying_r12 := goodIn_r _ [611, 612, 613, 614, 615, 135, 136, 616, 617, 618, 619, 620, 621, 622, 623, 624, 625, 626, 627, 628, 77, 629, 630, 631] (by decide +kernel) (by decide +kernel)
set_option maxRecDepth 20000 in
theorem ggL_law_L_bestByTrying_p13 : GoodIn wsL_law wsL_bestByTrying_r13 := goodIn_r _ [632, 633, 634, 635, 636, 637, 731, 732, 733, 734, 735, 736, 737, 738, 739, 740, 741, 742] (by decide +kernel) (by decide +kernel)
set_option maxRecDepth 20000 in
theorem ggL_law_L_bestByTrying_p14 : GoodIn wsL_law wsX110 := goodIn_r _ [991, 992, 993, 994, 995, 996, 997] (by decide +kernel) (by decide +kernel)
set_option maxRecDepth 20000 in
theorem ggL_law_L_bestByTrying_p15 : GoodIn wsL_law wsX00 := goodIn_r _ [1035, 1036, 1037, 1038, 1039] (by decide +kernel) (by decide +kernel)
set_option maxRecDepth 20000 in
theorem ggL_law_L_bestByTrying_p16 : GoodIn wsL_law wsX80 := goodIn_r _ [1046, 1047, 1048, 1049, 1050, 1051, 1052, 1053, 1054, 1055, 1056, 1057] (by decide +kernel) (by decide +kernel)
set_option maxRecDepth 20000 in
theorem ggL_law_L_bestByTrying_p17 : GoodIn wsL_law wsX100 := goodIn_r _ [1071, 1072, 1073, 1074, 1075] (by decide +kernel) (by decide +kernel)
set_option maxRecDepth 20000 in
theorem ggL_law_L_bestByTrying_p18 : GoodIn wsL_law wsX60 := goodIn_r _ [1040, 1041, 1042, 1043, 1044, 1045] (by decide +kernel) (by decide +kernel)
set_option maxRecDepth 20000 in
theorem ggL_law_L_bestByTrying_p19 : GoodIn wsL_law wsX20 := goodIn_r _ [1080, 1081, 1082, 1083, 1084, 1085, 1086, 1087, 1088] (by decide +kernel) (by decide +kernel)
set_option maxRecDepth 20000 in
theorem ggL_law_L_bestByTrying_p20 : GoodIn wsL_law wsX30 := goodIn_r _ [1089, 1090, 1091, 1092] (by decide +kernel) (by decide +kernel)
set_option maxRecDepth 20000 in
theorem ggL_law_L_bestByTrying_p21 : GoodIn wsL_law wsX70 := goodIn_r _ [1076, 1077, 1078, 1079] (by decide +kernel) (by decide +kernel)
set_option maxRecDepth 20000 in
theorem ggL_law_L_bestByTrying_p22 : GoodIn wsL_law wsX90 := goodIn_r _ [1093, 1094, 1095, 1096] (by decide +kernel) (by decide +kernel)
set_option maxRecDepth 20000 in
theorem ggL_law_L_bestByTrying_p23 : GoodIn wsL_law wsX10 := goodIn_r _ [1058, 1059, 1060, 1061] (by decide +kernel) (by decide +kernel)
set_option maxRecDepth 20000 in
theorem ggL_law_L_bestByTrying : GoodIn wsL_law wsL_bestByTrying := goodIn_ca (goodIn_ca (goodIn_ca (goodIn_app ggL_law_L_bestByTrying_p0 (goodIn_app (goodIn_app (goodIn_app (goodIn_app (goodIn_app (goodIn_app (goodIn_app (goodIn_app (goodIn_app (goodIn_app (goodIn_app ggL_law_L_bestByTrying_p1 (goodIn_app ggL_law_L_bestByTrying_p2 (goodIn_app ggL_law_L_bestByTrying_p3 (goodIn_app ggL_law_L_bestByTrying_p4 (goodIn_app ggL_law_L_bestByTrying_p5 (goodIn_app ggL_law_L_bestByTrying_p6 (goodIn_app ggL_law_L_bestByTrying_p7 (goodIn_app ggL_law_L_bestByTrying_p8 (goodIn_app ggL_law_L_bestByTrying_p9 (goodIn_app ggL_law_L_bestByTrying_p10 (goodIn_app ggL_law_L_bestByTrying_p11 (goodIn_app ggL_law_L_bestByTrying_p12 ggL_law_L_bestByTrying_p13)))))))))))) ggL_law_L_bestByTrying_p14) ggL_law_L_bestByTrying_p15) ggL_law_L_bestByTrying_p16) ggL_law_L_bestByTrying_p17) ggL_law_L_bestByTrying_p18) ggL_law_L_bestByTrying_p19) ggL_law_L_bestByTrying_p20) ggL_law_L_bestByTrying_p21) ggL_law_L_bestByTrying_p22) ggL_law_L_bestByTrying_p23)) (goodIn_sub (fun _ h => List.mem_append_left _ (List.mem_append_left _ (List.mem_append_left _ (List.mem_append_left _ (List.mem_append_left _ (List.mem_append_left _ (List.mem_append_left _ (List.mem_append_right _ h)))))))) (by decide +kernel))) (goodIn_sub (fun _ h => List.mem_append_left _ (List.mem_append_right _ h)) (by decide +kernel))) (goodIn_sub (fun _ h => List.mem_append_left _ (List.mem_append_left _ (List.mem_append_right _ h))) (by decide +kernel))
set_option maxRecDepth 20000 in
theorem gL_law_L_bestByTrying : GoodIn wsL_law (va_wsS RL 136 yL_bestByTrying wsL_bestByTrying) := goodIn_app (goodIn_of _ (by decide +kernel)) ggL_law_L_bestByTrying
set_option maxRecDepth 20000 in
theorem ggL_law_X12_bestByTrying_p0 : GoodIn wsL_law [.code yX12_bestByTrying cX12_bestByTrying 1 (some .int)] := goodIn_r _ [746] (by decide +kernel) (by decide +kernel)
set_option maxRecDepth 20000 in
theorem ggL_law_X12_bestByTrying_p1 : GoodIn wsL_law wsX12_bestByTrying_r1 := goodIn_r _ [153, 157, 158, 159, 5, 160, 154, 97, 107, 747, 748, 749, 750, 155, 751, 643, 644, 645, 646, 647, 648, 649, 650, 156] (by decide +kernel) (by decide +kernel)
set_option maxRecDepth 20000 in
theorem ggL_law_X12_bestByTrying_p2 : GoodIn wsL_law wsX12_bestByTrying_r2 := goodIn_r _ [324, 109, 110, 651, 241, 242, 243, 244, 93, 652, 653, 654, 655, 113, 98, 656, 539, 510, 540, 421, 422, 423, 424, 103] (by decide +kernel) (by decide +kernel)
set_option maxRecDepth 20000 in
theorem ggL_law_X12_bestByTrying_p3 : GoodIn wsL_law wsX12_bestByTrying_r3 := goodIn_r _ [106, 212, 657, 658, 659, 660, 661, 662, 663, 664, 665, 467, 468, 469, 470, 471, 472, 666, 667, 668, 669, 100, 101, 670] (by decide +kernel) (by decide +kernel)
set_option maxRecDepth 20000 in
theorem ggL_law_X12_bestByTrying_p4 : GoodIn wsL_law wsX12_bestByTrying_r4 := goodIn_r _ [671, 672, 673, 92, 674, 675, 676, 677, 99, 678, 679, 680, 681, 682, 509, 511, 102, 683, 684, 685, 686, 687, 688, 689] (by decide +kernel) (by decide +kernel)
set_option maxRecDepth 20000 in
theorem ggL_law_X12_bestByTrying_p5 : GoodIn wsL_law wsX12_bestByTrying_r5 := goodIn_r _ [690, 691, 692, 114, 108, 115, 116, 111, 117, 112, 693, 694, 695, 696, 104, 118, 697, 698, 699, 700, 701, 702, 703, 704] (by decide +kernel) (by decide +kernel)
set_option maxRecDepth 20000 in
theorem ggL_law_X12_bestByTrying_p6 : GoodIn wsL_law wsX12_bestByTrying_r6 := goodIn_r _ [705, 706, 707, 708, 709, 710, 711, 712, 713, 714, 715, 716, 717, 718, 719, 720, 94] (by decide +kernel) (by decide +kernel)
set_option maxRecDepth 20000 in
theorem ggL_law_X12_bestByTrying_p7 : GoodIn wsL_law wsX120 := goodIn_r _ [998, 999, 1000, 1001, 1002, 1003, 1004, 1005, 1006, 1007, 1008, 1009, 1010, 1011, 1012, 1013, 1014, 1015, 1016, 1017, 1018, 1019, 1020, 1021, 1022, 1023, 1024, 1025, 1026, 1027, 1028, 1029, 1030, 1031, 1032, 1033, 1034] (by decide +kernel) (by decide +kernel)
set_option maxRecDepth 20000 in
theorem ggL_law_X12_bestByTrying : GoodIn wsL_law wsX12_bestByTrying := goodIn_ca (goodIn_ca (goodIn_app ggL_law_X12_bestByTrying_p0 (goodIn_app (goodIn_app ggL_law_X12_bestByTrying_p1 (goodIn_app ggL_law_X12_bestByTrying_p2 (goodIn_app ggL_law_X12_bestByTrying_p3 (goodIn_app ggL_law_X12_bestByTrying_p4 (goodIn_app ggL_law_X12_bestByTrying_p5 ggL_law_X12_bestByTrying_p6))))) ggL_law_X12_bestByTrying_p7)) (goodIn_sub (fun _ h => List.mem_append_left _ (List.mem_append_left _ (List.mem_append_left _ (List.mem_append_left _ (List.mem_append_left _ (List.mem_append_left _ (List.mem_append_left _ (List.mem_append_right _ h)))))))) (by decide +kernel))) (goodIn_sub (fun _ h => List.mem_append_left _ (List.mem_append_left _ (List.mem_append_right _ h))) (by decide +kernel))
set_option maxRecDepth 20000 in
theorem gL_law_X12_bestByTrying : GoodIn wsL_law (wsV RL 139 RX12 yX12_bestByTrying wsX12_bestByTrying) := goodIn_app (goodIn_of _ (by decide +kernel)) ggL_law_X12_bestByTrying
set_option maxRecDepth 20000 in
theorem ggL_law_L_offerOf_p0 : GoodIn wsL_law [.codeWith yL_offerOf cL_offerOf 4 (some .int) [(0, 9, 12, 21)]] := goodIn_r _ [754] (by decide +kernel) (by decide +kernel)
set_option maxRecDepth 20000 in
theorem ggL_law_L_offerOf_p1 : GoodIn wsL_law wsL_offerOf_r1 := goodIn_r _ [171, 755, 756, 757, 2, 758, 176, 177, 17, 25, 178, 179, 180, 16, 181, 141, 38, 182, 183, 441, 442, 443, 444, 133] (by decide +kernel) (by decide +kernel)
set_option maxRecDepth 20000 in
theorem ggL_law_L_offerOf_p2 : GoodIn wsL_law wsL_offerOf_r2 := goodIn_r _ [207, 29, 445, 446, 447, 24, 448, 57, 63, 64, 58, 449, 450, 451, 452, 453, 454, 56, 455, 456, 71, 457, 189, 190] (by decide +kernel) (by decide +kernel)
set_option maxRecDepth 20000 in
theorem ggL_law_L_offerOf_p3 : GoodIn wsL_law wsL_offerOf_r3 := goodIn_r _ [191, 147, 148, 458, 430, 431, 20, 432, 262, 459, 402, 403, 404, 49, 405, 406, 407, 408, 45, 409, 410, 411, 412, 270] (by decide +kernel) (by decide +kernel)
set_option maxRecDepth 20000 in
theorem ggL_law_L_offerOf_p4 : GoodIn wsL_law wsL_offerOf_r4 := goodIn_r _ [413, 273, 414, 415, 416, 460, 461, 462, 463, 464, 229, 230, 465, 226, 227, 228, 466, 467, 468, 469, 470, 471, 472, 473] (by decide +kernel) (by decide +kernel)
set_option maxRecDepth 20000 in
theorem ggL_law_L_offerOf_p5 : GoodIn wsL_law wsL_offerOf_r5 := goodIn_r _ [474, 475, 476, 477, 354, 478, 360, 479, 480, 481, 334, 482, 339, 483, 484, 254, 485, 486, 487, 488, 489, 490, 491, 492] (by decide +kernel) (by decide +kernel)
set_option maxRecDepth 20000 in
theorem ggL_law_L_offerOf_p6 : GoodIn wsL_law wsL_offerOf_r6 := goodIn_r _ [493, 358, 362, 359, 363, 364, 361, 494, 495, 496, 497, 39, 235, 236, 498, 232, 233, 234, 40, 499, 500, 501, 502, 338] (by decide +kernel) (by decide +kernel)
set_option maxRecDepth 20000 in
theorem ggL_law_L_offerOf_p7 : GoodIn wsL_law wsL_offerOf_r7 := goodIn_r _ [503, 504, 505, 506, 507, 508, 509, 510, 511, 512, 513, 514, 266, 267, 515, 516, 517, 518, 519, 520, 521, 522, 68, 69] (by decide +kernel) (by decide +kernel)
set_option maxRecDepth 20000 in
theorem ggL_law_L_offerOf_p8 : GoodIn wsL_law wsL_offerOf_r8 := goodIn_r _ [70, 523, 524, 525, 526, 527, 528, 529, 59, 530, 531, 532, 533, 48, 534, 535, 536, 537, 60, 538, 539, 540, 541, 542] (by decide +kernel) (by decide +kernel)
set_option maxRecDepth 20000 in
theorem ggL_law_L_offerOf_p9 : GoodIn wsL_law wsL_offerOf_r9 := goodIn_r _ [543, 544, 545, 546, 547, 548, 549, 550, 551, 552, 553, 554, 555, 556, 557, 61, 558, 559, 560, 561, 562, 563, 564, 565] (by decide +kernel) (by decide +kernel)
set_option maxRecDepth 20000 in
theorem ggL_law_L_offerOf_p10 : GoodIn wsL_law wsL_offerOf_r10 := goodIn_r _ [566, 567, 568, 569, 46, 570, 571, 572, 573, 47, 574, 575, 576, 577, 578, 579, 580, 581, 582, 583, 584, 585, 586, 62] (by decide +kernel) (by decide +kernel)
set_option maxRecDepth 20000 in
theorem ggL_law_L_offerOf_p11 : GoodIn wsL_law wsL_offerOf_r11 := goodIn_r _ [587, 588, 589, 590, 591, 592, 593, 594, 595, 596, 597, 598, 599, 600, 601, 602, 603, 604, 605, 28, 606, 76, 78, 79] (by decide +kernel) (by decide +kernel)
set_option maxRecDepth 20000 in
theorem ggL_law_L_offerOf_p12 : GoodIn wsL_law wsL_offerOf_r12 := goodIn_r _ [607, 608, 609, 610, 611, 612, 613, 614, 615, 135, 136, 616, 617, 618, 619, 620, 621, 622, 623, 624, 625, 626, 627, 628] (by decide +kernel) (by decide +kernel)
set_option maxRecDepth 20000 in
theorem ggL_law_L_offerOf_p13 : GoodIn wsL_law wsL_offerOf_r13 := goodIn_r _ [77, 629, 630, 631, 632, 633, 634, 635, 636, 637, 759, 760, 761, 762, 763] (by decide +kernel) (by decide +kernel)
set_option maxRecDepth 20000 in
theorem ggL_law_L_offerOf_p14 : GoodIn wsL_law wsX110 := goodIn_r _ [991, 992, 993, 994, 995, 996, 997] (by decide +kernel) (by decide +kernel)
set_option maxRecDepth 20000 in
theorem ggL_law_L_offerOf_p15 : GoodIn wsL_law wsX00 := goodIn_r _ [1035, 1036, 1037, 1038, 1039] (by decide +kernel) (by decide +kernel)
set_option maxRecDepth 20000 in
theorem ggL_law_L_offerOf_p16 : GoodIn wsL_law wsX80 := goodIn_r _ [1046, 1047, 1048, 1049, 1050, 1051, 1052, 1053, 1054, 1055, 1056, 1057] (by decide +kernel) (by decide +kernel)
set_option maxRecDepth 20000 in
theorem ggL_law_L_offerOf_p17 : GoodIn wsL_law wsX100 := goodIn_r _ [1071, 1072, 1073, 1074, 1075] (by decide +kernel) (by decide +kernel)
set_option maxRecDepth 20000 in
theorem ggL_law_L_offerOf_p18 : GoodIn wsL_law wsX60 := goodIn_r _ [1040, 1041, 1042, 1043, 1044, 1045] (by decide +kernel) (by decide +kernel)
set_option maxRecDepth 20000 in
theorem ggL_law_L_offerOf_p19 : GoodIn wsL_law wsX20 := goodIn_r _ [1080, 1081, 1082, 1083, 1084, 1085, 1086, 1087, 1088] (by decide +kernel) (by decide +kernel)
set_option maxRecDepth 20000 in
theorem ggL_law_L_offerOf_p20 : GoodIn wsL_law wsX30 := goodIn_r _ [1089, 1090, 1091, 1092] (by decide +kernel) (by decide +kernel)
set_option maxRecDepth 20000 in
theorem ggL_law_L_offerOf_p21 : GoodIn wsL_law wsX70 := goodIn_r _ [1076, 1077, 1078, 1079] (by decide +kernel) (by decide +kernel)
set_option maxRecDepth 20000 in
theorem ggL_law_L_offerOf_p22 : GoodIn wsL_law wsX90 := goodIn_r _ [1093, 1094, 1095, 1096] (by decide +kernel) (by decide +kernel)
set_option maxRecDepth 20000 in
theorem ggL_law_L_offerOf_p23 : GoodIn wsL_law wsX10 := goodIn_r _ [1058, 1059, 1060, 1061] (by decide +kernel) (by decide +kernel)
set_option maxRecDepth 20000 in
theorem ggL_law_L_offerOf : GoodIn wsL_law wsL_offerOf := goodIn_ca (goodIn_ca (goodIn_ca (goodIn_app ggL_law_L_offerOf_p0 (goodIn_app (goodIn_app (goodIn_app (goodIn_app (goodIn_app (goodIn_app (goodIn_app (goodIn_app (goodIn_app (goodIn_app (goodIn_app ggL_law_L_offerOf_p1 (goodIn_app ggL_law_L_offerOf_p2 (goodIn_app ggL_law_L_offerOf_p3 (goodIn_app ggL_law_L_offerOf_p4 (goodIn_app ggL_law_L_offerOf_p5 (goodIn_app ggL_law_L_offerOf_p6 (goodIn_app ggL_law_L_offerOf_p7 (goodIn_app ggL_law_L_offerOf_p8 (goodIn_app ggL_law_L_offerOf_p9 (goodIn_app ggL_law_L_offerOf_p10 (goodIn_app ggL_law_L_offerOf_p11 (goodIn_app ggL_law_L_offerOf_p12 ggL_law_L_offerOf_p13)))))))))))) ggL_law_L_offerOf_p14) ggL_law_L_offerOf_p15) ggL_law_L_offerOf_p16) ggL_law_L_offerOf_p17) ggL_law_L_offerOf_p18) ggL_law_L_offerOf_p19) ggL_law_L_offerOf_p20) ggL_law_L_offerOf_p21) ggL_law_L_offerOf_p22) ggL_law_L_offerOf_p23)) (goodIn_sub (fun _ h => List.mem_append_left _ (List.mem_append_left _ (List.mem_append_left _ (List.mem_append_left _ (List.mem_append_left _ (List.mem_append_left _ (List.mem_append_left _ (List.mem_append_right _ h)))))))) (by decide +kernel))) (goodIn_sub (fun _ h => List.mem_append_left _ (List.mem_append_left _ (List.mem_append_left _ (List.mem_append_left _ (List.mem_append_right _ h))))) (by decide +kernel))) (goodIn_sub (fun _ h => List.mem_append_left _ (List.mem_append_left _ (List.mem_append_right _ h))) (by decide +kernel))
set_option maxRecDepth 20000 in
theorem gL_law_L_offerOf : GoodIn wsL_law (va_wsS RL 140 yL_offerOf wsL_offerOf) := goodIn_app (goodIn_of _ (by decide +kernel)) ggL_law_L_offerOf
set_option maxRecDepth 20000 in
theorem ggL_law_X12_offerOf_p0 : GoodIn wsL_law [.code yX12_offerOf cX12_offerOf 3 (some .int)] := goodIn_r _ [767] (by decide +kernel) (by decide +kernel)
set_option maxRecDepth 20000 in
theorem ggL_law_X12_offerOf_p1 : GoodIn wsL_law wsX12_offerOf_r1 := goodIn_r _ [155, 114, 116, 196, 197, 198, 5, 199, 154, 97, 161, 162, 163, 647, 648, 649, 650, 156, 324, 109, 110, 651, 646, 241] (by decide +kernel) (by decide +kernel)
set_option maxRecDepth 20000 in
theorem ggL_law_X12_offerOf_p2 : GoodIn wsL_law wsX12_offerOf_r2 := goodIn_r _ [242, 243, 244, 153, 93, 107, 157, 158, 159, 160, 652, 653, 654, 655, 113, 98, 656, 539, 510, 540, 421, 422, 423, 424] (by decide +kernel) (by decide +kernel)
set_option maxRecDepth 20000 in
theorem ggL_law_X12_offerOf_p3 : GoodIn wsL_law wsX12_offerOf_r3 := goodIn_r _ [103, 106, 212, 657, 658, 659, 660, 661, 662, 663, 664, 665, 467, 468, 469, 470, 471, 472, 666, 667, 668, 669, 100, 101] (by decide +kernel) (by decide +kernel)
set_option maxRecDepth 20000 in
theorem ggL_law_X12_offerOf_p4 : GoodIn wsL_law wsX12_offerOf_r4 := goodIn_r _ [670, 671, 672, 673, 92, 674, 675, 676, 677, 99, 678, 679, 680, 681, 682, 509, 511, 102, 683, 684, 685, 686, 687, 688] (by decide +kernel) (by decide +kernel)
set_option maxRecDepth 20000 in
theorem ggL_law_X12_offerOf_p5 : GoodIn wsL_law wsX12_offerOf_r5 := goodIn_r _ [689, 690, 691, 692, 108, 115, 111, 117, 112, 693, 694, 695, 696, 104, 118, 697, 698, 699, 700, 701, 702, 703, 704, 705] (by decide +kernel) (by decide +kernel)
set_option maxRecDepth 20000 in
theorem ggL_law_X12_offerOf_p6 : GoodIn wsL_law wsX12_offerOf_r6 := goodIn_r _ [706, 707, 708, 709, 710, 711, 712, 713, 714, 715, 716, 717, 718, 719, 720, 94, 768, 769, 770, 771] (by decide +kernel) (by decide +kernel)
set_option maxRecDepth 20000 in
theorem ggL_law_X12_offerOf_p7 : GoodIn wsL_law wsX120 := goodIn_r _ [998, 999, 1000, 1001, 1002, 1003, 1004, 1005, 1006, 1007, 1008, 1009, 1010, 1011, 1012, 1013, 1014, 1015, 1016, 1017, 1018, 1019, 1020, 1021, 1022, 1023, 1024, 1025, 1026, 1027, 1028, 1029, 1030, 1031, 1032, 1033, 1034] (by decide +kernel) (by decide +kernel)
set_option maxRecDepth 20000 in
theorem ggL_law_X12_offerOf : GoodIn wsL_law wsX12_offerOf := goodIn_ca (goodIn_ca (goodIn_app ggL_law_X12_offerOf_p0 (goodIn_app (goodIn_app ggL_law_X12_offerOf_p1 (goodIn_app ggL_law_X12_offerOf_p2 (goodIn_app ggL_law_X12_offerOf_p3 (goodIn_app ggL_law_X12_offerOf_p4 (goodIn_app ggL_law_X12_offerOf_p5 ggL_law_X12_offerOf_p6))))) ggL_law_X12_offerOf_p7)) (goodIn_sub (fun _ h => List.mem_append_left _ (List.mem_append_left _ (List.mem_append_left _ (List.mem_append_left _ (List.mem_append_left _ (List.mem_append_left _ (List.mem_append_left _ (List.mem_append_right _ h)))))))) (by decide +kernel))) (goodIn_sub (fun _ h => List.mem_append_left _ (List.mem_append_left _ (List.mem_append_right _ h))) (by decide +kernel))
set_option maxRecDepth 20000 in
theorem gL_law_X12_offerOf : GoodIn wsL_law (wsV RL 142 RX12 yX12_offerOf wsX12_offerOf) := goodIn_app (goodIn_of _ (by decide +kernel)) ggL_law_X12_offerOf
set_option maxRecDepth 20000 in
theorem ggL_law_L_uses_p0 : GoodIn wsL_law [.codeWith yL_uses cL_uses 4 (some .int) [(0, 9, 12, 43)]] := goodIn_r _ [774] (by decide +kernel) (by decide +kernel)
set_option maxRecDepth 20000 in
theorem ggL_law_L_uses_p1 : GoodIn wsL_law wsL_uses_r1 := goodIn_r _ [390, 775, 776, 777, 2, 778, 395, 396, 21, 25, 397, 398, 399, 20, 400, 262, 441, 442, 443, 444, 133, 207, 29, 445] (by decide +kernel) (by decide +kernel)
set_option maxRecDepth 20000 in
theorem ggL_law_L_uses_p2 : GoodIn wsL_law wsL_uses_r2 := goodIn_r _ [446, 447, 24, 448, 57, 63, 64, 58, 449, 450, 451, 452, 453, 454, 56, 455, 456, 71, 457, 189, 190, 16, 191, 141] (by decide +kernel) (by decide +kernel)
set_option maxRecDepth 20000 in
theorem ggL_law_L_uses_p3 : GoodIn wsL_law wsL_uses_r3 := goodIn_r _ [147, 148, 458, 430, 431, 432, 459, 402, 403, 404, 49, 405, 406, 407, 408, 45, 409, 410, 411, 412, 270, 413, 273, 414] (by decide +kernel) (by decide +kernel)
set_option maxRecDepth 20000 in
theorem ggL_law_L_uses_p4 : GoodIn wsL_law wsL_uses_r4 := goodIn_r _ [415, 416, 182, 183, 460, 461, 462, 463, 464, 229, 230, 465, 226, 227, 228, 466, 467, 468, 469, 470, 471, 472, 473, 474] (by decide +kernel) (by decide +kernel)
set_option maxRecDepth 20000 in
theorem ggL_law_L_uses_p5 : GoodIn wsL_law wsL_uses_r5 := goodIn_r _ [475, 476, 477, 354, 478, 360, 479, 480, 481, 334, 482, 339, 483, 484, 254, 485, 486, 487, 488, 489, 490, 491, 492, 493] (by decide +kernel) (by decide +kernel)
set_option maxRecDepth 20000 in
theorem ggL_law_L_uses_p6 : GoodIn wsL_law wsL_uses_r6 := goodIn_r _ [358, 362, 359, 363, 364, 361, 494, 495, 496, 497, 39, 235, 236, 498, 232, 233, 234, 40, 499, 500, 501, 502, 338, 503] (by decide +kernel) (by decide +kernel)
set_option maxRecDepth 20000 in
theorem ggL_law_L_uses_p7 : GoodIn wsL_law wsL_uses_r7 := goodIn_r _ [504, 505, 506, 507, 508, 509, 510, 511, 512, 513, 514, 266, 267, 515, 516, 517, 518, 519, 520, 521, 522, 68, 69, 70] (by decide +kernel) (by decide +kernel)
set_option maxRecDepth 20000 in
theorem ggL_law_L_uses_p8 : GoodIn wsL_law wsL_uses_r8 := goodIn_r _ [523, 524, 525, 526, 527, 528, 529, 59, 530, 531, 532, 533, 48, 534, 535, 536, 537, 60, 538, 539, 540, 541, 542, 543] (by decide +kernel) (by decide +kernel)
set_option maxRecDepth 20000 in
theorem ggL_law_L_uses_p9 : GoodIn wsL_law wsL_uses_r9 := goodIn_r _ [544, 545, 546, 547, 548, 549, 550, 551, 552, 553, 554, 555, 556, 557, 61, 558, 559, 560, 561, 562, 563, 564, 565, 566] (by decide +kernel) (by decide +kernel)
set_option maxRecDepth 20000 in
theorem ggL_law_L_uses_p10 : GoodIn wsL_law wsL_uses_r10 := goodIn_r _ [567, 568, 569, 46, 570, 571, 572, 573, 47, 574, 575, 576, 577, 578, 579, 580, 581, 582, 583, 584, 585, 586, 62, 587] (by decide +kernel) (by decide +kernel)
set_option maxRecDepth 20000 in
theorem ggL_law_L_uses_p11 : GoodIn wsL_law wsL_uses_r11 := goodIn_r _ [588, 589, 590, 591, 592, 593, 594, 595, 596, 597, 598, 599, 600, 601, 602, 603, 604, 605, 28, 606, 76, 78, 79, 607] (by decide +kernel) (by decide +kernel)
set_option maxRecDepth 20000 in
theorem ggL_law_L_uses_p12 : GoodIn wsL_law wsL_uses_r12 := goodIn_r _ [608, 609, 610, 611, 612, 613, 614, 615, 135, 136, 616, 617, 618, 619, 620, 621, 622, 623, 624, 625, 626, 627, 628, 77] (by decide +kernel) (by decide +kernel)
set_option maxRecDepth 20000 in
theorem ggL_law_L_uses_p13 : GoodIn wsL_law wsL_uses_r13 := goodIn_r _ [629, 630, 631, 632, 633, 634, 635, 636, 637, 779, 780, 781, 782, 763] (by decide +kernel) (by decide +kernel)
set_option maxRecDepth 20000 in
theorem ggL_law_L_uses_p14 : GoodIn wsL_law wsX110 := goodIn_r _ [991, 992, 993, 994, 995, 996, 997] (by decide +kernel) (by decide +kernel)
set_option maxRecDepth 20000 in
theorem ggL_law_L_uses_p15 : GoodIn wsL_law wsX60 := goodIn_r _ [1040, 1041, 1042, 1043, 1044, 1045] (by decide +kernel) (by decide +kernel)
set_option maxRecDepth 20000 in
theorem ggL_law_L_uses_p16 : GoodIn wsL_law wsX80 := goodIn_r _ [1046, 1047, 1048, 1049, 1050, 1051, 1052, 1053, 1054, 1055, 1056, 1057] (by decide +kernel) (by decide +kernel)
set_option maxRecDepth 20000 in
theorem ggL_law_L_uses_p17 : GoodIn wsL_law wsX100 := goodIn_r _ [1071, 1072, 1073, 1074, 1075] (by decide +kernel) (by decide +kernel)
set_option maxRecDepth 20000 in
theorem ggL_law_L_uses_p18 : GoodIn wsL_law wsX00 := goodIn_r _ [1035, 1036, 1037, 1038, 1039] (by decide +kernel) (by decide +kernel)
set_option maxRecDepth 20000 in
theorem ggL_law_L_uses_p19 : GoodIn wsL_law wsX20 := goodIn_r _ [1080, 1081, 1082, 1083, 1084, 1085, 1086, 1087, 1088] (by decide +kernel) (by decide +kernel)
set_option maxRecDepth 20000 in
theorem ggL_law_L_uses_p20 : GoodIn wsL_law wsX30 := goodIn_r _ [1089, 1090, 1091, 1092] (by decide +kernel) (by decide +kernel)
set_option maxRecDepth 20000 in
theorem ggL_law_L_uses_p21 : GoodIn wsL_law wsX70 := goodIn_r _ [1076, 1077, 1078, 1079] (by decide +kernel) (by decide +kernel)
set_option maxRecDepth 20000 in
theorem ggL_law_L_uses_p22 : GoodIn wsL_law wsX90 := goodIn_r _ [1093, 1094, 1095, 1096] (by decide +kernel) (by decide +kernel)
set_option maxRecDepth 20000 in
theorem ggL_law_L_uses_p23 : GoodIn wsL_law wsX10 := goodIn_r _ [1058, 1059, 1060, 1061] (by decide +kernel) (by decide +kernel)
set_option maxRecDepth 20000 in
theorem ggL_law_L_uses : GoodIn wsL_law wsL_uses := goodIn_ca (goodIn_ca (goodIn_ca (goodIn_app ggL_law_L_uses_p0 (goodIn_app (goodIn_app (goodIn_app (goodIn_app (goodIn_app (goodIn_app (goodIn_app (goodIn_app (goodIn_app (goodIn_app (goodIn_app ggL_law_L_uses_p1 (goodIn_app ggL_law_L_uses_p2 (goodIn_app ggL_law_L_uses_p3 (goodIn_app ggL_law_L_uses_p4 (goodIn_app ggL_law_L_uses_p5 (goodIn_app ggL_law_L_uses_p6 (goodIn_app ggL_law_L_uses_p7 (goodIn_app ggL_law_L_uses_p8 (goodIn_app ggL_law_L_uses_p9 (goodIn_app ggL_law_L_uses_p10 (goodIn_app ggL_law_L_uses_p11 (goodIn_app ggL_law_L_uses_p12 ggL_law_L_uses_p13)))))))))))) ggL_law_L_uses_p14) ggL_law_L_uses_p15) ggL_law_L_uses_p16) ggL_law_L_uses_p17) ggL_law_L_uses_p18) ggL_law_L_uses_p19) ggL_law_L_uses_p20) ggL_law_L_uses_p21) ggL_law_L_uses_p22) ggL_law_L_uses_p23)) (goodIn_sub (fun _ h => List.mem_append_left _ (List.mem_append_left _ (List.mem_append_left _ (List.mem_append_left _ (List.mem_append_left _ (List.mem_append_left _ (List.mem_append_left _ (List.mem_append_right _ h)))))))) (by decide +kernel))) (goodIn_sub (fun _ h => List.mem_append_left _ (List.mem_append_left _ (List.mem_append_left _ (List.mem_append_right _ h)))) (by decide +kernel))) (goodIn_sub (fun _ h => List.mem_append_left _ (List.mem_append_left _ (List.mem_append_right _ h))) (by decide +kernel))
set_option maxRecDepth 20000 in
theorem gL_law_L_uses : GoodIn wsL_law (va_wsS RL 143 yL_uses wsL_uses) := goodIn_app (goodIn_of _ (by decide +kernel)) ggL_law_L_uses
set_option maxRecDepth 20000 in
theorem ggL_law_X12_uses_p0 : GoodIn wsL_law [.code yX12_uses cX12_uses 2 (some .int)] := goodIn_r _ [786] (by decide +kernel) (by decide +kernel)
set_option maxRecDepth 20000 in
theorem ggL_law_X12_uses_p1 : GoodIn wsL_law wsX12_uses_r1 := goodIn_r _ [324, 155, 161, 162, 5, 163, 647, 648, 649, 650, 156, 109, 110, 651, 646, 241, 242, 243, 244, 153, 93, 107, 157, 158] (by decide +kernel) (by decide +kernel)
set_option maxRecDepth 20000 in
theorem ggL_law_X12_uses_p2 : GoodIn wsL_law wsX12_uses_r2 := goodIn_r _ [159, 160, 154, 97, 652, 653, 654, 655, 113, 98, 656, 539, 510, 540, 421, 422, 423, 424, 103, 106, 212, 657, 658, 659] (by decide +kernel) (by decide +kernel)
set_option maxRecDepth 20000 in
theorem ggL_law_X12_uses_p3 : GoodIn wsL_law wsX12_uses_r3 := goodIn_r _ [660, 661, 662, 663, 664, 665, 467, 468, 469, 470, 471, 472, 666, 667, 668, 669, 100, 101, 670, 671, 672, 673, 92, 674] (by decide +kernel) (by decide +kernel)
set_option maxRecDepth 20000 in
theorem ggL_law_X12_uses_p4 : GoodIn wsL_law wsX12_uses_r4 := goodIn_r _ [675, 676, 677, 99, 678, 679, 680, 681, 682, 509, 511, 102, 683, 684, 685, 686, 687, 688, 689, 690, 691, 692, 114, 108] (by decide +kernel) (by decide +kernel)
set_option maxRecDepth 20000 in
theorem ggL_law_X12_uses_p5 : GoodIn wsL_law wsX12_uses_r5 := goodIn_r _ [115, 116, 111, 117, 112, 693, 694, 695, 696, 104, 118, 697, 698, 699, 700, 701, 702, 703, 704, 705, 706, 707, 708, 709] (by decide +kernel) (by decide +kernel)
set_option maxRecDepth 20000 in
theorem ggL_law_X12_uses_p6 : GoodIn wsL_law wsX12_uses_r6 := goodIn_r _ [710, 711, 712, 713, 714, 715, 716, 717, 718, 719, 720, 94, 787, 788, 789, 790] (by decide +kernel) (by decide +kernel)
set_option maxRecDepth 20000 in
theorem ggL_law_X12_uses_p7 : GoodIn wsL_law wsX120 := goodIn_r _ [998, 999, 1000, 1001, 1002, 1003, 1004, 1005, 1006, 1007, 1008, 1009, 1010, 1011, 1012, 1013, 1014, 1015, 1016, 1017, 1018, 1019, 1020, 1021, 1022, 1023, 1024, 1025, 1026, 1027, 1028, 1029, 1030, 1031, 1032, 1033, 1034] (by decide +kernel) (by decide +kernel)
set_option maxRecDepth 20000 in
theorem ggL_law_X12_uses : GoodIn wsL_law wsX12_uses := goodIn_ca (goodIn_ca (goodIn_app ggL_law_X12_uses_p0 (goodIn_app (goodIn_app ggL_law_X12_uses_p1 (goodIn_app ggL_law_X12_uses_p2 (goodIn_app ggL_law_X12_uses_p3 (goodIn_app ggL_law_X12_uses_p4 (goodIn_app ggL_law_X12_uses_p5 ggL_law_X12_uses_p6))))) ggL_law_X12_uses_p7)) (goodIn_sub (fun _ h => List.mem_append_left _ (List.mem_append_left _ (List.mem_append_left _ (List.mem_append_left _ (List.mem_append_left _ (List.mem_append_left _ (List.mem_append_left _ (List.mem_append_right _ h)))))))) (by decide +kernel))) (goodIn_sub (fun _ h => List.mem_append_left _ (List.mem_append_left _ (List.mem_append_right _ h))) (by decide +kernel))
set_option maxRecDepth 20000 in
theorem gL_law_X12_uses : GoodIn wsL_law (wsV RL 145 RX12 yX12_uses wsX12_uses) := goodIn_app (goodIn_of _ (by decide +kernel)) ggL_law_X12_uses
set_option maxRecDepth 20000 in
theorem ggL_law_L_reason_p0 : GoodIn wsL_law [.codeWith yL_reason cL_reason 4 (some .int) [(0, 9, 12, 43)]] := goodIn_r _ [793] (by decide +kernel) (by decide +kernel)
set_option maxRecDepth 20000 in
theorem ggL_law_L_reason_p1 : GoodIn wsL_law wsL_reason_r1 := goodIn_r _ [390, 794, 795, 796, 2, 797, 395, 396, 21, 25, 207, 397, 398, 399, 20, 400, 262, 441, 442, 443, 444, 133, 29, 445] (by decide +kernel) (by decide +kernel)
set_option maxRecDepth 20000 in
theorem ggL_law_L_reason_p2 : GoodIn wsL_law wsL_reason_r2 := goodIn_r _ [446, 447, 24, 448, 57, 63, 64, 58, 449, 450, 451, 452, 453, 454, 56, 455, 456, 71, 457, 189, 190, 16, 191, 141] (by decide +kernel) (by decide +kernel)
set_option maxRecDepth 20000 in
theorem ggL_law_L_reason_p3 : GoodIn wsL_law wsL_reason_r3 := goodIn_r _ [147, 148, 458, 430, 431, 432, 459, 402, 403, 404, 49, 405, 406, 407, 408, 45, 409, 410, 411, 412, 270, 413, 273, 414] (by decide +kernel) (by decide +kernel)
set_option maxRecDepth 20000 in
theorem ggL_law_L_reason_p4 : GoodIn wsL_law wsL_reason_r4 := goodIn_r _ [415, 416, 182, 183, 460, 461, 462, 463, 464, 229, 230, 465, 226, 227, 228, 466, 467, 468, 469, 470, 471, 472, 473, 474] (by decide +kernel) (by decide +kernel)
set_option maxRecDepth 20000 in
theorem ggL_law_L_reason_p5 : GoodIn wsL_law wsL_reason_r5 := goodIn_r _ [475, 476, 477, 354, 478, 360, 479, 480, 481, 334, 482, 339, 483, 484, 254, 485, 486, 487, 488, 489, 490, 491, 492, 493] (by decide +kernel) (by decide +kernel)
set_option maxRecDepth 20000 in
theorem ggL_law_L_reason_p6 : GoodIn wsL_law wsL_reason_r6 := goodIn_r _ [358, 362, 359, 363, 364, 361, 494, 495, 496, 497, 39, 235, 236, 498, 232, 233, 234, 40, 499, 500, 501, 502, 338, 503] (by decide +kernel) (by decide +kernel)
set_option maxRecDepth 20000 in
theorem ggL_law_L_reason_p7 : GoodIn wsL_law wsL_reason_r7 := goodIn_r _ [504, 505, 506, 507, 508, 509, 510, 511, 512, 513, 514, 266, 267, 515, 516, 517, 518, 519, 520, 521, 522, 68, 69, 70] (by decide +kernel) (by decide +kernel)
set_option maxRecDepth 20000 in
theorem ggL_law_L_reason_p8 : GoodIn wsL_law wsL_reason_r8 := goodIn_r _ [523, 524, 525, 526, 527, 528, 529, 59, 530, 531, 532, 533, 48, 534, 535, 536, 537, 60, 538, 539, 540, 541, 542, 543] (by decide +kernel) (by decide +kernel)
set_option maxRecDepth 20000 in
theorem ggL_law_L_reason_p9 : GoodIn wsL_law wsL_reason_r9 := goodIn_r _ [544, 545, 546, 547, 548, 549, 550, 551, 552, 553, 554, 555, 556, 557, 61, 558, 559, 560, 561, 562, 563, 564, 565, 566] (by decide +kernel) (by decide +kernel)
set_option maxRecDepth 20000 in
theorem ggL_law_L_reason_p10 : GoodIn wsL_law wsL_reason_r10 := goodIn_r _ [567, 568, 569, 46, 570, 571, 572, 573, 47, 574, 575, 576, 577, 578, 579, 580, 581, 582, 583, 584, 585, 586, 62, 587] (by decide +kernel) (by decide +kernel)
set_option maxRecDepth 20000 in
theorem ggL_law_L_reason_p11 : GoodIn wsL_law wsL_reason_r11 := goodIn_r _ [588, 589, 590, 591, 592, 593, 594, 595, 596, 597, 598, 599, 600, 601, 602, 603, 604, 605, 28, 606, 76, 78, 79, 607] (by decide +kernel) (by decide +kernel)
set_option maxRecDepth 20000 in
theorem ggL_law_L_reason_p12 : GoodIn wsL_law wsL_reason_r12 := goodIn_r _ [608, 609, 610, 611, 612, 613, 614, 615, 135, 136, 616, 617, 618, 619, 620, 621, 622, 623, 624, 625, 626, 627, 628, 77] (by decide +kernel) (by decide +kernel)
set_option maxRecDepth 20000 in
theorem ggL_law_L_reason_p13 : GoodIn wsL_law wsL_reason_r13 := goodIn_r _ [629, 630, 631, 632, 633, 634, 635, 636, 637, 779, 780, 781, 782, 763, 401, 798, 799, 800, 801, 802, 803, 804, 805] (by decide +kernel) (by decide +kernel)
set_option maxRecDepth 20000 in
theorem ggL_law_L_reason_p14 : GoodIn wsL_law wsX110 := goodIn_r _ [991, 992, 993, 994, 995, 996, 997] (by decide +kernel) (by decide +kernel)
set_option maxRecDepth 20000 in
theorem ggL_law_L_reason_p15 : GoodIn wsL_law wsX60 := goodIn_r _ [1040, 1041, 1042, 1043, 1044, 1045] (by decide +kernel) (by decide +kernel)
set_option maxRecDepth 20000 in
theorem ggL_law_L_reason_p16 : GoodIn wsL_law wsX80 := goodIn_r _ [1046, 1047, 1048, 1049, 1050, 1051, 1052, 1053, 1054, 1055, 1056, 1057] (by decide +kernel) (by decide +kernel)
set_option maxRecDepth 20000 in
theorem ggL_law_L_reason_p17 : GoodIn wsL_law wsX100 := goodIn_r _ [1071, 1072, 1073, 1074, 1075] (by decide +kernel) (by decide +kernel)
set_option maxRecDepth 20000 in
theorem ggL_law_L_reason_p18 : GoodIn wsL_law wsX00 := goodIn_r _ [1035, 1036, 1037, 1038, 1039] (by decide +kernel) (by decide +kernel)
set_option maxRecDepth 20000 in
theorem ggL_law_L_reason_p19 : GoodIn wsL_law wsX20 := goodIn_r _ [1080, 1081, 1082, 1083, 1084, 1085, 1086, 1087, 1088] (by decide +kernel) (by decide +kernel)
set_option maxRecDepth 20000 in
theorem ggL_law_L_reason_p20 : GoodIn wsL_law wsX30 := goodIn_r _ [1089, 1090, 1091, 1092] (by decide +kernel) (by decide +kernel)
set_option maxRecDepth 20000 in
theorem ggL_law_L_reason_p21 : GoodIn wsL_law wsX70 := goodIn_r _ [1076, 1077, 1078, 1079] (by decide +kernel) (by decide +kernel)
set_option maxRecDepth 20000 in
theorem ggL_law_L_reason_p22 : GoodIn wsL_law wsX90 := goodIn_r _ [1093, 1094, 1095, 1096] (by decide +kernel) (by decide +kernel)
set_option maxRecDepth 20000 in
theorem ggL_law_L_reason_p23 : GoodIn wsL_law wsX10 := goodIn_r _ [1058, 1059, 1060, 1061] (by decide +kernel) (by decide +kernel)
set_option maxRecDepth 20000 in
theorem ggL_law_L_reason : GoodIn wsL_law wsL_reason := goodIn_ca (goodIn_ca (goodIn_ca (goodIn_app ggL_law_L_reason_p0 (goodIn_app (goodIn_app (goodIn_app (goodIn_app (goodIn_app (goodIn_app (goodIn_app (goodIn_app (goodIn_app (goodIn_app (goodIn_app ggL_law_L_reason_p1 (goodIn_app ggL_law_L_reason_p2 (goodIn_app ggL_law_L_reason_p3 (goodIn_app ggL_law_L_reason_p4 (goodIn_app ggL_law_L_reason_p5 (goodIn_app ggL_law_L_reason_p6 (goodIn_app ggL_law_L_reason_p7 (goodIn_app ggL_law_L_reason_p8 (goodIn_app ggL_law_L_reason_p9 (goodIn_app ggL_law_L_reason_p10 (goodIn_app ggL_law_L_reason_p11 (goodIn_app ggL_law_L_reason_p12 ggL_law_L_reason_p13)))))))))))) ggL_law_L_reason_p14) ggL_law_L_reason_p15) ggL_law_L_reason_p16) ggL_law_L_reason_p17) ggL_law_L_reason_p18) ggL_law_L_reason_p19) ggL_law_L_reason_p20) ggL_law_L_reason_p21) ggL_law_L_reason_p22) ggL_law_L_reason_p23)) (goodIn_sub (fun _ h => List.mem_append_left _ (List.mem_append_left _ (List.mem_append_left _ (List.mem_append_left _ (List.mem_append_left _ (List.mem_append_left _ (List.mem_append_left _ (List.mem_append_right _ h)))))))) (by decide +kernel))) (goodIn_sub (fun _ h => List.mem_append_left _ (List.mem_append_left _ (List.mem_append_left _ (List.mem_append_right _ h)))) (by decide +kernel))) (goodIn_sub (fun _ h => List.mem_append_left _ (List.mem_append_left _ (List.mem_append_right _ h))) (by decide +kernel))
set_option maxRecDepth 20000 in
theorem gL_law_L_reason : GoodIn wsL_law (va_wsS RL 146 yL_reason wsL_reason) := goodIn_app (goodIn_of _ (by decide +kernel)) ggL_law_L_reason
set_option maxRecDepth 20000 in
theorem ggL_law_X12_reason_p0 : GoodIn wsL_law [.code yX12_reason cX12_reason 4 (some .char)] := goodIn_r _ [809] (by decide +kernel) (by decide +kernel)
set_option maxRecDepth 20000 in
theorem ggL_law_X12_reason_p1 : GoodIn wsL_law wsX12_reason_r1 := goodIn_r _ [324, 155, 104, 161, 162, 5, 163, 647, 648, 649, 650, 156, 109, 110, 651, 646, 241, 242, 243, 244, 153, 93, 107, 157] (by decide +kernel) (by decide +kernel)
set_option maxRecDepth 20000 in
theorem ggL_law_X12_reason_p2 : GoodIn wsL_law wsX12_reason_r2 := goodIn_r _ [158, 159, 160, 154, 97, 652, 653, 654, 655, 113, 98, 656, 539, 510, 540, 421, 422, 423, 424, 103, 106, 212, 657, 658] (by decide +kernel) (by decide +kernel)
set_option maxRecDepth 20000 in
theorem ggL_law_X12_reason_p3 : GoodIn wsL_law wsX12_reason_r3 := goodIn_r _ [659, 660, 661, 662, 663, 664, 665, 467, 468, 469, 470, 471, 472, 666, 667, 668, 669, 100, 101, 670, 671, 672, 673, 92] (by decide +kernel) (by decide +kernel)
set_option maxRecDepth 20000 in
theorem ggL_law_X12_reason_p4 : GoodIn wsL_law wsX12_reason_r4 := goodIn_r _ [674, 675, 676, 677, 99, 678, 679, 680, 681, 682, 509, 511, 102, 683, 684, 685, 686, 687, 688, 689, 690, 691, 692, 114] (by decide +kernel) (by decide +kernel)
set_option maxRecDepth 20000 in
theorem ggL_law_X12_reason_p5 : GoodIn wsL_law wsX12_reason_r5 := goodIn_r _ [108, 115, 116, 111, 117, 112, 693, 694, 695, 696, 118, 697, 698, 699, 700, 701, 702, 703, 704, 705, 706, 707, 708, 709] (by decide +kernel) (by decide +kernel)
set_option maxRecDepth 20000 in
theorem ggL_law_X12_reason_p6 : GoodIn wsL_law wsX12_reason_r6 := goodIn_r _ [710, 711, 712, 713, 714, 715, 716, 717, 718, 719, 720, 94, 787, 788, 789, 790, 810, 811, 812, 813] (by decide +kernel) (by decide +kernel)
set_option maxRecDepth 20000 in
theorem ggL_law_X12_reason_p7 : GoodIn wsL_law wsX120 := goodIn_r _ [998, 999, 1000, 1001, 1002, 1003, 1004, 1005, 1006, 1007, 1008, 1009, 1010, 1011, 1012, 1013, 1014, 1015, 1016, 1017, 1018, 1019, 1020, 1021, 1022, 1023, 1024, 1025, 1026, 1027, 1028, 1029, 1030, 1031, 1032, 1033, 1034] (by decide +kernel) (by decide +kernel)
set_option maxRecDepth 20000 in
theorem ggL_law_X12_reason : GoodIn wsL_law wsX12_reason := goodIn_ca (goodIn_ca (goodIn_app ggL_law_X12_reason_p0 (goodIn_app (goodIn_app ggL_law_X12_reason_p1 (goodIn_app ggL_law_X12_reason_p2 (goodIn_app ggL_law_X12_reason_p3 (goodIn_app ggL_law_X12_reason_p4 (goodIn_app ggL_law_X12_reason_p5 ggL_law_X12_reason_p6))))) ggL_law_X12_reason_p7)) (goodIn_sub (fun _ h => List.mem_append_left _ (List.mem_append_left _ (List.mem_append_left _ (List.mem_append_left _ (List.mem_append_left _ (List.mem_append_left _ (List.mem_append_left _ (List.mem_append_right _ h)))))))) (by decide +kernel))) (goodIn_sub (fun _ h => List.mem_append_left _ (List.mem_append_left _ (List.mem_append_right _ h))) (by decide +kernel))
set_option maxRecDepth 20000 in
theorem gL_law_X12_reason : GoodIn wsL_law (wsV RL 148 RX12 yX12_reason wsX12_reason) := goodIn_app (goodIn_of _ (by decide +kernel)) ggL_law_X12_reason
set_option maxRecDepth 20000 in
theorem ggL_law_L_netPrice_p0 : GoodIn wsL_law [.codeWith yL_netPrice cL_netPrice 4 (some .int) [(0, 9, 12, 21)]] := goodIn_r _ [816] (by decide +kernel) (by decide +kernel)
set_option maxRecDepth 20000 in
theorem ggL_law_L_netPrice_p1 : GoodIn wsL_law wsL_netPrice_r1 := goodIn_r _ [171, 817, 818, 819, 2, 820, 176, 177, 17, 29, 178, 179, 180, 16, 181, 141, 38, 182, 183, 441, 442, 443, 444, 133] (by decide +kernel) (by decide +kernel)
set_option maxRecDepth 20000 in
theorem ggL_law_L_netPrice_p2 : GoodIn wsL_law wsL_netPrice_r2 := goodIn_r _ [25, 207, 445, 446, 447, 24, 448, 57, 63, 64, 58, 449, 450, 451, 452, 453, 454, 56, 455, 456, 71, 457, 189, 190] (by decide +kernel) (by decide +kernel)
set_option maxRecDepth 20000 in
theorem ggL_law_L_netPrice_p3 : GoodIn wsL_law wsL_netPrice_r3 := goodIn_r _ [191, 147, 148, 458, 430, 431, 20, 432, 262, 459, 402, 403, 404, 49, 405, 406, 407, 408, 45, 409, 410, 411, 412, 270] (by decide +kernel) (by decide +kernel)
set_option maxRecDepth 20000 in
theorem ggL_law_L_netPrice_p4 : GoodIn wsL_law wsL_netPrice_r4 := goodIn_r _ [413, 273, 414, 415, 416, 460, 461, 462, 463, 464, 229, 230, 465, 226, 227, 228, 466, 467, 468, 469, 470, 471, 472, 473] (by decide +kernel) (by decide +kernel)
set_option maxRecDepth 20000 in
theorem ggL_law_L_netPrice_p5 : GoodIn wsL_law wsL_netPrice_r5 := goodIn_r _ [474, 475, 476, 477, 354, 478, 360, 479, 480, 481, 334, 482, 339, 483, 484, 254, 485, 486, 487, 488, 489, 490, 491, 492] (by decide +kernel) (by decide +kernel)
set_option maxRecDepth 20000 in
theorem ggL_law_L_netPrice_p6 : GoodIn wsL_law wsL_netPrice_r6 := goodIn_r _ [493, 358, 362, 359, 363, 364, 361, 494, 495, 496, 497, 39, 235, 236, 498, 232, 233, 234, 40, 499, 500, 501, 502, 338] (by decide +kernel) (by decide +kernel)
set_option maxRecDepth 20000 in
theorem ggL_law_L_netPrice_p7 : GoodIn wsL_law wsL_netPrice_r7 := goodIn_r _ [503, 504, 505, 506, 507, 508, 509, 510, 511, 512, 513, 514, 266, 267, 515, 516, 517, 518, 519, 520, 521, 522, 68, 69] (by decide +kernel) (by decide +kernel)
set_option maxRecDepth 20000 in
theorem ggL_law_L_netPrice_p8 : GoodIn wsL_law wsL_netPrice_r8 := goodIn_r _ [70, 523, 524, 525, 526, 527, 528, 529, 59, 530, 531, 532, 533, 48, 534, 535, 536, 537, 60, 538, 539, 540, 541, 542] (by decide +kernel) (by decide +kernel)
set_option maxRecDepth 20000 in
theorem ggL_law_L_netPrice_p9 : GoodIn wsL_law wsL_netPrice_r9 := goodIn_r _ [543, 544, 545, 546, 547, 548, 549, 550, 551, 552, 553, 554, 555, 556, 557, 61, 558, 559, 560, 561, 562, 563, 564, 565] (by decide +kernel) (by decide +kernel)
set_option maxRecDepth 20000 in
theorem ggL_law_L_netPrice_p10 : GoodIn wsL_law wsL_netPrice_r10 := goodIn_r _ [566, 567, 568, 569, 46, 570, 571, 572, 573, 47, 574, 575, 576, 577, 578, 579, 580, 581, 582, 583, 584, 585, 586, 62] (by decide +kernel) (by decide +kernel)
set_option maxRecDepth 20000 in
theorem ggL_law_L_netPrice_p11 : GoodIn wsL_law wsL_netPrice_r11 := goodIn_r _ [587, 588, 589, 590, 591, 592, 593, 594, 595, 596, 597, 598, 599, 600, 601, 602, 603, 604, 605, 28, 606, 76, 78, 79] (by decide +kernel) (by decide +kernel)
set_option maxRecDepth 20000 in
theorem ggL_law_L_netPrice_p12 : GoodIn wsL_law wsL_netPrice_r12 := goodIn_r _ [607, 608, 609, 610, 611, 612, 613, 614, 615, 135, 136, 616, 617, 618, 619, 620, 621, 622, 623, 624, 625, 626, 627, 628] (by decide +kernel) (by decide +kernel)
set_option maxRecDepth 20000 in
theorem ggL_law_L_netPrice_p13 : GoodIn wsL_law wsL_netPrice_r13 := goodIn_r _ [77, 629, 630, 631, 632, 633, 634, 635, 636, 637, 821, 822, 823, 824] (by decide +kernel) (by decide +kernel)
set_option maxRecDepth 20000 in
theorem ggL_law_L_netPrice_p14 : GoodIn wsL_law wsX110 := goodIn_r _ [991, 992, 993, 994, 995, 996, 997] (by decide +kernel) (by decide +kernel)
set_option maxRecDepth 20000 in
theorem ggL_law_L_netPrice_p15 : GoodIn wsL_law wsX00 := goodIn_r _ [1035, 1036, 1037, 1038, 1039] (by decide +kernel) (by decide +kernel)
set_option maxRecDepth 20000 in
theorem ggL_law_L_netPrice_p16 : GoodIn wsL_law wsX80 := goodIn_r _ [1046, 1047, 1048, 1049, 1050, 1051, 1052, 1053, 1054, 1055, 1056, 1057] (by decide +kernel) (by decide +kernel)
set_option maxRecDepth 20000 in
theorem ggL_law_L_netPrice_p17 : GoodIn wsL_law wsX100 := goodIn_r _ [1071, 1072, 1073, 1074, 1075] (by decide +kernel) (by decide +kernel)
set_option maxRecDepth 20000 in
theorem ggL_law_L_netPrice_p18 : GoodIn wsL_law wsX60 := goodIn_r _ [1040, 1041, 1042, 1043, 1044, 1045] (by decide +kernel) (by decide +kernel)
set_option maxRecDepth 20000 in
theorem ggL_law_L_netPrice_p19 : GoodIn wsL_law wsX20 := goodIn_r _ [1080, 1081, 1082, 1083, 1084, 1085, 1086, 1087, 1088] (by decide +kernel) (by decide +kernel)
set_option maxRecDepth 20000 in
theorem ggL_law_L_netPrice_p20 : GoodIn wsL_law wsX30 := goodIn_r _ [1089, 1090, 1091, 1092] (by decide +kernel) (by decide +kernel)
set_option maxRecDepth 20000 in
theorem ggL_law_L_netPrice_p21 : GoodIn wsL_law wsX70 := goodIn_r _ [1076, 1077, 1078, 1079] (by decide +kernel) (by decide +kernel)
set_option maxRecDepth 20000 in
theorem ggL_law_L_netPrice_p22 : GoodIn wsL_law wsX90 := goodIn_r _ [1093, 1094, 1095, 1096] (by decide +kernel) (by decide +kernel)
set_option maxRecDepth 20000 in
theorem ggL_law_L_netPrice_p23 : GoodIn wsL_law wsX10 := goodIn_r _ [1058, 1059, 1060, 1061] (by decide +kernel) (by decide +kernel)
set_option maxRecDepth 20000 in
theorem ggL_law_L_netPrice : GoodIn wsL_law wsL_netPrice := goodIn_ca (goodIn_ca (goodIn_ca (goodIn_app ggL_law_L_netPrice_p0 (goodIn_app (goodIn_app (goodIn_app (goodIn_app (goodIn_app (goodIn_app (goodIn_app (goodIn_app (goodIn_app (goodIn_app (goodIn_app ggL_law_L_netPrice_p1 (goodIn_app ggL_law_L_netPrice_p2 (goodIn_app ggL_law_L_netPrice_p3 (goodIn_app ggL_law_L_netPrice_p4 (goodIn_app ggL_law_L_netPrice_p5 (goodIn_app ggL_law_L_netPrice_p6 (goodIn_app ggL_law_L_netPrice_p7 (goodIn_app ggL_law_L_netPrice_p8 (goodIn_app ggL_law_L_netPrice_p9 (goodIn_app ggL_law_L_netPrice_p10 (goodIn_app ggL_law_L_netPrice_p11 (goodIn_app ggL_law_L_netPrice_p12 ggL_law_L_netPrice_p13)))))))))))) ggL_law_L_netPrice_p14) ggL_law_L_netPrice_p15) ggL_law_L_netPrice_p16) ggL_law_L_netPrice_p17) ggL_law_L_netPrice_p18) ggL_law_L_netPrice_p19) ggL_law_L_netPrice_p20) ggL_law_L_netPrice_p21) ggL_law_L_netPrice_p22) ggL_law_L_netPrice_p23)) (goodIn_sub (fun _ h => List.mem_append_left _ (List.mem_append_left _ (List.mem_append_left _ (List.mem_append_left _ (List.mem_append_left _ (List.mem_append_left _ (List.mem_append_left _ (List.mem_append_right _ h)))))))) (by decide +kernel))) (goodIn_sub (fun _ h => List.mem_append_left _ (List.mem_append_left _ (List.mem_append_left _ (List.mem_append_left _ (List.mem_append_right _ h))))) (by decide +kernel))) (goodIn_sub (fun _ h => List.mem_append_left _ (List.mem_append_left _ (List.mem_append_right _ h))) (by decide +kernel))
set_option maxRecDepth 20000 in
theorem gL_law_L_netPrice : GoodIn wsL_law (va_wsS RL 149 yL_netPrice wsL_netPrice) := goodIn_app (goodIn_of _ (by decide +kernel)) ggL_law_L_netPrice
set_option maxRecDepth 20000 in
theorem ggL_law_X12_netPrice_p0 : GoodIn wsL_law [.code yX12_netPrice cX12_netPrice 2 (some .int)] := goodIn_r _ [828] (by decide +kernel) (by decide +kernel)
set_option maxRecDepth 20000 in
theorem ggL_law_X12_netPrice_p1 : GoodIn wsL_law wsX12_netPrice_r1 := goodIn_r _ [155, 94, 196, 197, 198, 5, 199, 154, 97, 161, 162, 163, 647, 648, 649, 650, 156, 324, 109, 110, 651, 646, 241, 242] (by decide +kernel) (by decide +kernel)
set_option maxRecDepth 20000 in
theorem ggL_law_X12_netPrice_p2 : GoodIn wsL_law wsX12_netPrice_r2 := goodIn_r _ [243, 244, 153, 93, 107, 157, 158, 159, 160, 652, 653, 654, 655, 113, 98, 656, 539, 510, 540, 421, 422, 423, 424, 103] (by decide +kernel) (by decide +kernel)
set_option maxRecDepth 20000 in
theorem ggL_law_X12_netPrice_p3 : GoodIn wsL_law wsX12_netPrice_r3 := goodIn_r _ [106, 212, 657, 658, 659, 660, 661, 662, 663, 664, 665, 467, 468, 469, 470, 471, 472, 666, 667, 668, 669, 100, 101, 670] (by decide +kernel) (by decide +kernel)
set_option maxRecDepth 20000 in
theorem ggL_law_X12_netPrice_p4 : GoodIn wsL_law wsX12_netPrice_r4 := goodIn_r _ [671, 672, 673, 92, 674, 675, 676, 677, 99, 678, 679, 680, 681, 682, 509, 511, 102, 683, 684, 685, 686, 687, 688, 689] (by decide +kernel) (by decide +kernel)
set_option maxRecDepth 20000 in
theorem ggL_law_X12_netPrice_p5 : GoodIn wsL_law wsX12_netPrice_r5 := goodIn_r _ [690, 691, 692, 114, 108, 115, 116, 111, 117, 112, 693, 694, 695, 696, 104, 118, 697, 698, 699, 700, 701, 702, 703, 704] (by decide +kernel) (by decide +kernel)
set_option maxRecDepth 20000 in
theorem ggL_law_X12_netPrice_p6 : GoodIn wsL_law wsX12_netPrice_r6 := goodIn_r _ [705, 706, 707, 708, 709, 710, 711, 712, 713, 714, 715, 716, 717, 718, 719, 720] (by decide +kernel) (by decide +kernel)
set_option maxRecDepth 20000 in
theorem ggL_law_X12_netPrice_p7 : GoodIn wsL_law wsX120 := goodIn_r _ [998, 999, 1000, 1001, 1002, 1003, 1004, 1005, 1006, 1007, 1008, 1009, 1010, 1011, 1012, 1013, 1014, 1015, 1016, 1017, 1018, 1019, 1020, 1021, 1022, 1023, 1024, 1025, 1026, 1027, 1028, 1029, 1030, 1031, 1032, 1033, 1034] (by decide +kernel) (by decide +kernel)
set_option maxRecDepth 20000 in
theorem ggL_law_X12_netPrice : GoodIn wsL_law wsX12_netPrice := goodIn_ca (goodIn_ca (goodIn_app ggL_law_X12_netPrice_p0 (goodIn_app (goodIn_app ggL_law_X12_netPrice_p1 (goodIn_app ggL_law_X12_netPrice_p2 (goodIn_app ggL_law_X12_netPrice_p3 (goodIn_app ggL_law_X12_netPrice_p4 (goodIn_app ggL_law_X12_netPrice_p5 ggL_law_X12_netPrice_p6))))) ggL_law_X12_netPrice_p7)) (goodIn_sub (fun _ h => List.mem_append_left _ (List.mem_append_left _ (List.mem_append_left _ (List.mem_append_left _ (List.mem_append_left _ (List.mem_append_left _ (List.mem_append_left _ (List.mem_append_right _ h)))))))) (by decide +kernel))) (goodIn_sub (fun _ h => List.mem_append_left _ (List.mem_append_left _ (List.mem_append_right _ h))) (by decide +kernel))
set_option maxRecDepth 20000 in
theorem gL_law_X12_netPrice : GoodIn wsL_law (wsV RL 151 RX12 yX12_netPrice wsX12_netPrice) := goodIn_app (goodIn_of _ (by decide +kernel)) ggL_law_X12_netPrice
set_option maxRecDepth 20000 in
theorem ggL_law_X11_toPay_p0 : GoodIn wsL_law [.code yX11_toPay cX11_toPay 1 (some .int)] := goodIn_r _ [832] (by decide +kernel) (by decide +kernel)
set_option maxRecDepth 20000 in
theorem ggL_law_X11_toPay_p1 : GoodIn wsL_law wsX11_toPay_r1 := goodIn_r _ [29, 441, 442, 443, 2, 444, 133, 25, 207, 445, 446, 447, 24, 448, 57, 63, 64, 58, 449, 450, 451, 452, 453, 454] (by decide +kernel) (by decide +kernel)
set_option maxRecDepth 20000 in
theorem ggL_law_X11_toPay_p2 : GoodIn wsL_law wsX11_toPay_r2 := goodIn_r _ [56, 455, 456, 71, 457, 189, 190, 16, 191, 141, 147, 148, 458, 430, 431, 20, 432, 262, 459, 402, 403, 404, 49, 405] (by decide +kernel) (by decide +kernel)
set_option maxRecDepth 20000 in
theorem ggL_law_X11_toPay_p3 : GoodIn wsL_law wsX11_toPay_r3 := goodIn_r _ [406, 407, 408, 45, 409, 410, 411, 412, 270, 413, 273, 414, 415, 416, 182, 183, 460, 461, 462, 463, 464, 229, 230, 465] (by decide +kernel) (by decide +kernel)
set_option maxRecDepth 20000 in
theorem ggL_law_X11_toPay_p4 : GoodIn wsL_law wsX11_toPay_r4 := goodIn_r _ [226, 227, 228, 466, 467, 468, 469, 470, 471, 472, 473, 474, 475, 476, 477, 354, 478, 360, 479, 480, 481, 334, 482, 339] (by decide +kernel) (by decide +kernel)
set_option maxRecDepth 20000 in
theorem ggL_law_X11_toPay_p5 : GoodIn wsL_law wsX11_toPay_r5 := goodIn_r _ [483, 484, 254, 485, 486, 487, 488, 489, 490, 491, 492, 493, 358, 362, 359, 363, 364, 361, 494, 495, 496, 497, 39, 235] (by decide +kernel) (by decide +kernel)
set_option maxRecDepth 20000 in
theorem ggL_law_X11_toPay_p6 : GoodIn wsL_law wsX11_toPay_r6 := goodIn_r _ [236, 498, 232, 233, 234, 40, 499, 500, 501, 502, 338, 503, 504, 505, 506, 507, 508, 509, 510, 511, 512, 513, 514, 266] (by decide +kernel) (by decide +kernel)
set_option maxRecDepth 20000 in
theorem ggL_law_X11_toPay_p7 : GoodIn wsL_law wsX11_toPay_r7 := goodIn_r _ [267, 515, 516, 517, 518, 519, 520, 521, 522, 68, 69, 70, 523, 524, 525, 526, 527, 528, 529, 59, 530, 531, 532, 533] (by decide +kernel) (by decide +kernel)
set_option maxRecDepth 20000 in
theorem ggL_law_X11_toPay_p8 : GoodIn wsL_law wsX11_toPay_r8 := goodIn_r _ [48, 534, 535, 536, 537, 60, 538, 539, 540, 541, 542, 543, 544, 545, 546, 547, 548, 549, 550, 551, 552, 553, 554, 555] (by decide +kernel) (by decide +kernel)
set_option maxRecDepth 20000 in
theorem ggL_law_X11_toPay_p9 : GoodIn wsL_law wsX11_toPay_r9 := goodIn_r _ [556, 557, 61, 558, 559, 560, 561, 562, 563, 564, 565, 566, 567, 568, 569, 46, 570, 571, 572, 573, 47, 574, 575, 576] (by decide +kernel) (by decide +kernel)
set_option maxRecDepth 20000 in
theorem ggL_law_X11_toPay_p10 : GoodIn wsL_law wsX11_toPay_r10 := goodIn_r _ [577, 578, 579, 580, 581, 582, 583, 584, 585, 586, 62, 587, 588, 589, 590, 591, 592, 593, 594, 595, 596, 597, 598, 599] (by decide +kernel) (by decide +kernel)
set_option maxRecDepth 20000 in
theorem ggL_law_X11_toPay_p11 : GoodIn wsL_law wsX11_toPay_r11 := goodIn_r _ [600, 601, 602, 603, 604, 605, 28, 606, 76, 78, 79, 607, 608, 609, 610, 611, 612, 613, 614, 615, 135, 136, 616, 617] (by decide +kernel) (by decide +kernel)
set_option maxRecDepth 20000 in
theorem ggL_law_X11_toPay_p12 : GoodIn wsL_law wsX11_toPay_r12 := goodIn_r _ [618, 619, 620, 621, 622, 623, 624, 625, 626, 627, 628, 77, 629, 630, 631, 632, 633, 634, 635, 636, 637, 833, 834, 835] (by decide +kernel) (by decide +kernel)
set_option maxRecDepth 20000 in
theorem ggL_law_X11_toPay_p13 : GoodIn wsL_law wsX11_toPay_r13 := goodIn_r _ [836] (by decide +kernel) (by decide +kernel)
set_option maxRecDepth 20000 in
theorem ggL_law_X11_toPay_p14 : GoodIn wsL_law wsX110 := goodIn_r _ [991, 992, 993, 994, 995, 996, 997] (by decide +kernel) (by decide +kernel)
set_option maxRecDepth 20000 in
theorem ggL_law_X11_toPay_p15 : GoodIn wsL_law wsX80 := goodIn_r _ [1046, 1047, 1048, 1049, 1050, 1051, 1052, 1053, 1054, 1055, 1056, 1057] (by decide +kernel) (by decide +kernel)
set_option maxRecDepth 20000 in
theorem ggL_law_X11_toPay_p16 : GoodIn wsL_law wsX100 := goodIn_r _ [1071, 1072, 1073, 1074, 1075] (by decide +kernel) (by decide +kernel)
set_option maxRecDepth 20000 in
theorem ggL_law_X11_toPay_p17 : GoodIn wsL_law wsX00 := goodIn_r _ [1035, 1036, 1037, 1038, 1039] (by decide +kernel) (by decide +kernel)
set_option maxRecDepth 20000 in
theorem ggL_law_X11_toPay_p18 : GoodIn wsL_law wsX60 := goodIn_r _ [1040, 1041, 1042, 1043, 1044, 1045] (by decide +kernel) (by decide +kernel)
set_option maxRecDepth 20000 in
theorem ggL_law_X11_toPay_p19 : GoodIn wsL_law wsX20 := goodIn_r _ [1080, 1081, 1082, 1083, 1084, 1085, 1086, 1087, 1088] (by decide +kernel) (by decide +kernel)
set_option maxRecDepth 20000 in
theorem ggL_law_X11_toPay_p20 : GoodIn wsL_law wsX30 := goodIn_r _ [1089, 1090, 1091, 1092] (by decide +kernel) (by decide +kernel)
set_option maxRecDepth 20000 in
theorem ggL_law_X11_toPay_p21 : GoodIn wsL_law wsX70 := goodIn_r _ [1076, 1077, 1078, 1079] (by decide +kernel) (by decide +kernel)
set_option maxRecDepth 20000 in
theorem ggL_law_X11_toPay_p22 : GoodIn wsL_law wsX90 := goodIn_r _ [1093, 1094, 1095, 1096] (by decide +kernel) (by decide +kernel)
set_option maxRecDepth 20000 in
theorem ggL_law_X11_toPay_p23 : GoodIn wsL_law wsX10 := goodIn_r _ [1058, 1059, 1060, 1061] (by decide +kernel) (by decide +kernel)
set_option maxRecDepth 20000 in
theorem ggL_law_X11_toPay : GoodIn wsL_law wsX11_toPay := goodIn_ca (goodIn_ca (goodIn_app ggL_law_X11_toPay_p0 (goodIn_app (goodIn_app (goodIn_app (goodIn_app (goodIn_app (goodIn_app (goodIn_app (goodIn_app (goodIn_app (goodIn_app (goodIn_app ggL_law_X11_toPay_p1 (goodIn_app ggL_law_X11_toPay_p2 (goodIn_app ggL_law_X11_toPay_p3 (goodIn_app ggL_law_X11_toPay_p4 (goodIn_app ggL_law_X11_toPay_p5 (goodIn_app ggL_law_X11_toPay_p6 (goodIn_app ggL_law_X11_toPay_p7 (goodIn_app ggL_law_X11_toPay_p8 (goodIn_app ggL_law_X11_toPay_p9 (goodIn_app ggL_law_X11_toPay_p10 (goodIn_app ggL_law_X11_toPay_p11 (goodIn_app ggL_law_X11_toPay_p12 ggL_law_X11_toPay_p13)))))))))))) ggL_law_X11_toPay_p14) ggL_law_X11_toPay_p15) ggL_law_X11_toPay_p16) ggL_law_X11_toPay_p17) ggL_law_X11_toPay_p18) ggL_law_X11_toPay_p19) ggL_law_X11_toPay_p20) ggL_law_X11_toPay_p21) ggL_law_X11_toPay_p22) ggL_law_X11_toPay_p23)) (goodIn_sub (fun _ h => List.mem_append_left _ (List.mem_append_left _ (List.mem_append_left _ (List.mem_append_left _ (List.mem_append_left _ (List.mem_append_left _ (List.mem_append_left _ (List.mem_append_right _ h)))))))) (by decide +kernel))) (goodIn_sub (fun _ h => List.mem_append_left _ (List.mem_append_left _ (List.mem_append_right _ h))) (by decide +kernel))
set_option maxRecDepth 20000 in
theorem gL_law_X11_toPay : GoodIn wsL_law (wsV RL 152 RX11 yX11_toPay wsX11_toPay) := goodIn_app (goodIn_of _ (by decide +kernel)) ggL_law_X11_toPay
set_option maxRecDepth 20000 in
theorem ggL_law_X12_toPay_p0 : GoodIn wsL_law [.code yX12_toPay cX12_toPay 1 (some .int)] := goodIn_r _ [840] (by decide +kernel) (by decide +kernel)
set_option maxRecDepth 20000 in
theorem ggL_law_X12_toPay_p1 : GoodIn wsL_law wsX12_toPay_r1 := goodIn_r _ [155, 841, 842, 843, 5, 844, 153, 94, 107, 647, 648, 649, 650, 156, 324, 109, 110, 651, 646, 241, 242, 243, 244, 93] (by decide +kernel) (by decide +kernel)
set_option maxRecDepth 20000 in
theorem ggL_law_X12_toPay_p2 : GoodIn wsL_law wsX12_toPay_r2 := goodIn_r _ [157, 158, 159, 160, 154, 97, 652, 653, 654, 655, 113, 98, 656, 539, 510, 540, 421, 422, 423, 424, 103, 106, 212, 657] (by decide +kernel) (by decide +kernel)
set_option maxRecDepth 20000 in
theorem ggL_law_X12_toPay_p3 : GoodIn wsL_law wsX12_toPay_r3 := goodIn_r _ [658, 659, 660, 661, 662, 663, 664, 665, 467, 468, 469, 470, 471, 472, 666, 667, 668, 669, 100, 101, 670, 671, 672, 673] (by decide +kernel) (by decide +kernel)
set_option maxRecDepth 20000 in
theorem ggL_law_X12_toPay_p4 : GoodIn wsL_law wsX12_toPay_r4 := goodIn_r _ [92, 674, 675, 676, 677, 99, 678, 679, 680, 681, 682, 509, 511, 102, 683, 684, 685, 686, 687, 688, 689, 690, 691, 692] (by decide +kernel) (by decide +kernel)
set_option maxRecDepth 20000 in
theorem ggL_law_X12_toPay_p5 : GoodIn wsL_law wsX12_toPay_r5 := goodIn_r _ [114, 108, 115, 116, 111, 117, 112, 693, 694, 695, 696, 104, 118, 697, 698, 699, 700, 701, 702, 703, 704, 705, 706, 707] (by decide +kernel) (by decide +kernel)
set_option maxRecDepth 20000 in
theorem ggL_law_X12_toPay_p6 : GoodIn wsL_law wsX12_toPay_r6 := goodIn_r _ [708, 709, 710, 711, 712, 713, 714, 715, 716, 717, 718, 719, 720] (by decide +kernel) (by decide +kernel)
set_option maxRecDepth 20000 in
theorem ggL_law_X12_toPay_p7 : GoodIn wsL_law wsX120 := goodIn_r _ [998, 999, 1000, 1001, 1002, 1003, 1004, 1005, 1006, 1007, 1008, 1009, 1010, 1011, 1012, 1013, 1014, 1015, 1016, 1017, 1018, 1019, 1020, 1021, 1022, 1023, 1024, 1025, 1026, 1027, 1028, 1029, 1030, 1031, 1032, 1033, 1034] (by decide +kernel) (by decide +kernel)
set_option maxRecDepth 20000 in
theorem ggL_law_X12_toPay : GoodIn wsL_law wsX12_toPay := goodIn_ca (goodIn_ca (goodIn_app ggL_law_X12_toPay_p0 (goodIn_app (goodIn_app ggL_law_X12_toPay_p1 (goodIn_app ggL_law_X12_toPay_p2 (goodIn_app ggL_law_X12_toPay_p3 (goodIn_app ggL_law_X12_toPay_p4 (goodIn_app ggL_law_X12_toPay_p5 ggL_law_X12_toPay_p6))))) ggL_law_X12_toPay_p7)) (goodIn_sub (fun _ h => List.mem_append_left _ (List.mem_append_left _ (List.mem_append_left _ (List.mem_append_left _ (List.mem_append_left _ (List.mem_append_left _ (List.mem_append_left _ (List.mem_append_right _ h)))))))) (by decide +kernel))) (goodIn_sub (fun _ h => List.mem_append_left _ (List.mem_append_left _ (List.mem_append_right _ h))) (by decide +kernel))
set_option maxRecDepth 20000 in
theorem gL_law_X12_toPay : GoodIn wsL_law (wsV RL 155 RX12 yX12_toPay wsX12_toPay) := goodIn_app (goodIn_of _ (by decide +kernel)) ggL_law_X12_toPay
set_option maxRecDepth 20000 in
theorem ggL_law_L_sell_p0 : GoodIn wsL_law [.codeWith yL_sell cL_sell 3 (some .int) [(0, 8, 11, 15)]] := goodIn_r _ [847] (by decide +kernel) (by decide +kernel)
set_option maxRecDepth 20000 in
theorem ggL_law_L_sell_p1 : GoodIn wsL_law wsL_sell_r1 := goodIn_r _ [124, 848, 849, 850, 2, 851, 131, 132, 17, 29, 33, 207, 21, 25, 133, 188, 189, 190, 16, 191, 141, 441, 442, 443] (by decide +kernel) (by decide +kernel)
set_option maxRecDepth 20000 in
theorem ggL_law_L_sell_p2 : GoodIn wsL_law wsL_sell_r2 := goodIn_r _ [444, 445, 446, 447, 24, 448, 57, 63, 64, 58, 449, 450, 451, 452, 453, 454, 56, 455, 456, 71, 457, 147, 148, 458] (by decide +kernel) (by decide +kernel)
set_option maxRecDepth 20000 in
theorem ggL_law_L_sell_p3 : GoodIn wsL_law wsL_sell_r3 := goodIn_r _ [430, 431, 20, 432, 262, 459, 402, 403, 404, 49, 405, 406, 407, 408, 45, 409, 410, 411, 412, 270, 413, 273, 414, 415] (by decide +kernel) (by decide +kernel)
set_option maxRecDepth 20000 in
theorem ggL_law_L_sell_p4 : GoodIn wsL_law wsL_sell_r4 := goodIn_r _ [416, 182, 183, 460, 461, 462, 463, 464, 229, 230, 465, 226, 227, 228, 466, 467, 468, 469, 470, 471, 472, 473, 474, 475] (by decide +kernel) (by decide +kernel)
set_option maxRecDepth 20000 in
theorem ggL_law_L_sell_p5 : GoodIn wsL_law wsL_sell_r5 := goodIn_r _ [476, 477, 354, 478, 360, 479, 480, 481, 334, 482, 339, 483, 484, 254, 485, 486, 487, 488, 489, 490, 491, 492, 493, 358] (by decide +kernel) (by decide +kernel)
set_option maxRecDepth 20000 in
theorem ggL_law_L_sell_p6 : GoodIn wsL_law wsL_sell_r6 := goodIn_r _ [362, 359, 363, 364, 361, 494, 495, 496, 497, 39, 235, 236, 498, 232, 233, 234, 40, 499, 500, 501, 502, 338, 503, 504] (by decide +kernel) (by decide +kernel)
set_option maxRecDepth 20000 in
theorem ggL_law_L_sell_p7 : GoodIn wsL_law wsL_sell_r7 := goodIn_r _ [505, 506, 507, 508, 509, 510, 511, 512, 513, 514, 266, 267, 515, 516, 517, 518, 519, 520, 521, 522, 68, 69, 70, 523] (by decide +kernel) (by decide +kernel)
set_option maxRecDepth 20000 in
theorem ggL_law_L_sell_p8 : GoodIn wsL_law wsL_sell_r8 := goodIn_r _ [524, 525, 526, 527, 528, 529, 59, 530, 531, 532, 533, 48, 534, 535, 536, 537, 60, 538, 539, 540, 541, 542, 543, 544] (by decide +kernel) (by decide +kernel)
set_option maxRecDepth 20000 in
theorem ggL_law_L_sell_p9 : GoodIn wsL_law wsL_sell_r9 := goodIn_r _ [545, 546, 547, 548, 549, 550, 551, 552, 553, 554, 555, 556, 557, 61, 558, 559, 560, 561, 562, 563, 564, 565, 566, 567] (by decide +kernel) (by decide +kernel)
set_option maxRecDepth 20000 in
theorem ggL_law_L_sell_p10 : GoodIn wsL_law wsL_sell_r10 := goodIn_r _ [568, 569, 46, 570, 571, 572, 573, 47, 574, 575, 576, 577, 578, 579, 580, 581, 582, 583, 584, 585, 586, 62, 587, 588] (by decide +kernel) (by decide +kernel)
set_option maxRecDepth 20000 in
theorem ggL_law_L_sell_p11 : GoodIn wsL_law wsL_sell_r11 := goodIn_r _ [589, 590, 591, 592, 593, 594, 595, 596, 597, 598, 599, 600, 601, 602, 603, 604, 605, 28, 606, 76, 78, 79, 607, 608] (by decide +kernel) (by decide +kernel)
set_option maxRecDepth 20000 in
theorem ggL_law_L_sell_p12 : GoodIn wsL_law wsL_sell_r12 := goodIn_r _ [609, 610, 611, 612, 613, 614, 615, 135, 136, 616, 617, 618, 619, 620, 621, 622, 623, 624, 625, 626, 627, 628, 77, 629] (by decide +kernel) (by decide +kernel)
set_option maxRecDepth 20000 in
theorem ggL_law_L_sell_p13 : GoodIn wsL_law wsL_sell_r13 := goodIn_r _ [630, 631, 632, 633, 634, 635, 636, 637, 833, 834, 835, 836, 852, 853, 854, 855, 38, 856, 821, 822, 823, 824, 857, 858] (by decide +kernel) (by decide +kernel)
set_option maxRecDepth 20000 in
theorem ggL_law_L_sell_p14 : GoodIn wsL_law wsL_sell_r14 := goodIn_r _ [859, 32, 860, 84, 86, 87, 861, 862, 863, 429, 779, 780, 781, 782, 763, 864, 865, 866, 867, 868, 869, 870, 871, 872] (by decide +kernel) (by decide +kernel)
set_option maxRecDepth 20000 in
theorem ggL_law_L_sell_p15 : GoodIn wsL_law wsL_sell_r15 := goodIn_r _ [873, 874, 875, 876] (by decide +kernel) (by decide +kernel)
set_option maxRecDepth 20000 in
theorem ggL_law_L_sell_p16 : GoodIn wsL_law wsX110 := goodIn_r _ [991, 992, 993, 994, 995, 996, 997] (by decide +kernel) (by decide +kernel)
set_option maxRecDepth 20000 in
theorem ggL_law_L_sell_p17 : GoodIn wsL_law wsX00 := goodIn_r _ [1035, 1036, 1037, 1038, 1039] (by decide +kernel) (by decide +kernel)
set_option maxRecDepth 20000 in
theorem ggL_law_L_sell_p18 : GoodIn wsL_law wsX80 := goodIn_r _ [1046, 1047, 1048, 1049, 1050, 1051, 1052, 1053, 1054, 1055, 1056, 1057] (by decide +kernel) (by decide +kernel)
set_option maxRecDepth 20000 in
theorem ggL_law_L_sell_p19 : GoodIn wsL_law wsX100 := goodIn_r _ [1071, 1072, 1073, 1074, 1075] (by decide +kernel) (by decide +kernel)
set_option maxRecDepth 20000 in
theorem ggL_law_L_sell_p20 : GoodIn wsL_law wsX60 := goodIn_r _ [1040, 1041, 1042, 1043, 1044, 1045] (by decide +kernel) (by decide +kernel)
set_option maxRecDepth 20000 in
theorem ggL_law_L_sell_p21 : GoodIn wsL_law wsX20 := goodIn_r _ [1080, 1081, 1082, 1083, 1084, 1085, 1086, 1087, 1088] (by decide +kernel) (by decide +kernel)
set_option maxRecDepth 20000 in
theorem ggL_law_L_sell_p22 : GoodIn wsL_law wsX30 := goodIn_r _ [1089, 1090, 1091, 1092] (by decide +kernel) (by decide +kernel)
set_option maxRecDepth 20000 in
theorem ggL_law_L_sell_p23 : GoodIn wsL_law wsX70 := goodIn_r _ [1076, 1077, 1078, 1079] (by decide +kernel) (by decide +kernel)
set_option maxRecDepth 20000 in
theorem ggL_law_L_sell_p24 : GoodIn wsL_law wsX90 := goodIn_r _ [1093, 1094, 1095, 1096] (by decide +kernel) (by decide +kernel)
set_option maxRecDepth 20000 in
theorem ggL_law_L_sell_p25 : GoodIn wsL_law wsX10 := goodIn_r _ [1058, 1059, 1060, 1061] (by decide +kernel) (by decide +kernel)
set_option maxRecDepth 20000 in
theorem ggL_law_L_sell_p26 : GoodIn wsL_law wsX40 := goodIn_r _ [1062, 1063, 1064, 1065, 1066, 1067, 1068, 1069, 1070] (by decide +kernel) (by decide +kernel)
set_option maxRecDepth 20000 in
theorem ggL_law_L_sell : GoodIn wsL_law wsL_sell := goodIn_ca (goodIn_ca (goodIn_ca (goodIn_app ggL_law_L_sell_p0 (goodIn_app (goodIn_app (goodIn_app (goodIn_app (goodIn_app (goodIn_app (goodIn_app (goodIn_app (goodIn_app (goodIn_app (goodIn_app (goodIn_app ggL_law_L_sell_p1 (goodIn_app ggL_law_L_sell_p2 (goodIn_app ggL_law_L_sell_p3 (goodIn_app ggL_law_L_sell_p4 (goodIn_app ggL_law_L_sell_p5 (goodIn_app ggL_law_L_sell_p6 (goodIn_app ggL_law_L_sell_p7 (goodIn_app ggL_law_L_sell_p8 (goodIn_app ggL_law_L_sell_p9 (goodIn_app ggL_law_L_sell_p10 (goodIn_app ggL_law_L_sell_p11 (goodIn_app ggL_law_L_sell_p12 (goodIn_app ggL_law_L_sell_p13 (goodIn_app ggL_law_L_sell_p14 ggL_law_L_sell_p15)))))))))))))) ggL_law_L_sell_p16) ggL_law_L_sell_p17) ggL_law_L_sell_p18) ggL_law_L_sell_p19) ggL_law_L_sell_p20) ggL_law_L_sell_p21) ggL_law_L_sell_p22) ggL_law_L_sell_p23) ggL_law_L_sell_p24) ggL_law_L_sell_p25) ggL_law_L_sell_p26)) (goodIn_sub (fun _ h => List.mem_append_left _ (List.mem_append_left _ (List.mem_append_left _ (List.mem_append_left _ (List.mem_append_left _ (List.mem_append_left _ (List.mem_append_left _ (List.mem_append_right _ h)))))))) (by decide +kernel))) (goodIn_sub (fun _ h => List.mem_append_left _ (List.mem_append_left _ (List.mem_append_left _ (List.mem_append_left _ (List.mem_append_left _ (List.mem_append_right _ h)))))) (by decide +kernel))) (goodIn_sub (fun _ h => List.mem_append_left _ (List.mem_append_left _ (List.mem_append_right _ h))) (by decide +kernel))
set_option maxRecDepth 20000 in
theorem gL_law_L_sell : GoodIn wsL_law (va_wsS RL 156 yL_sell wsL_sell) := goodIn_app (goodIn_of _ (by decide +kernel)) ggL_law_L_sell
set_option maxRecDepth 20000 in
theorem ggL_law_X12_sell_p0 : GoodIn wsL_law [.code yX12_sell cX12_sell 3 (some .int)] := goodIn_r _ [880] (by decide +kernel) (by decide +kernel)
set_option maxRecDepth 20000 in
theorem ggL_law_X12_sell_p1 : GoodIn wsL_law wsX12_sell_r1 := goodIn_r _ [153, 155, 324, 106, 212, 881, 97, 107, 95, 882, 156, 157, 158, 159, 5, 160, 154, 841, 842, 843, 844, 94, 647, 648] (by decide +kernel) (by decide +kernel)
set_option maxRecDepth 20000 in
theorem ggL_law_X12_sell_p2 : GoodIn wsL_law wsX12_sell_r2 := goodIn_r _ [649, 650, 109, 110, 651, 646, 241, 242, 243, 244, 93, 652, 653, 654, 655, 113, 98, 656, 539, 510, 540, 421, 422, 423] (by decide +kernel) (by decide +kernel)
set_option maxRecDepth 20000 in
theorem ggL_law_X12_sell_p3 : GoodIn wsL_law wsX12_sell_r3 := goodIn_r _ [424, 103, 657, 658, 659, 660, 661, 662, 663, 664, 665, 467, 468, 469, 470, 471, 472, 666, 667, 668, 669, 100, 101, 670] (by decide +kernel) (by decide +kernel)
set_option maxRecDepth 20000 in
theorem ggL_law_X12_sell_p4 : GoodIn wsL_law wsX12_sell_r4 := goodIn_r _ [671, 672, 673, 92, 674, 675, 676, 677, 99, 678, 679, 680, 681, 682, 509, 511, 102, 683, 684, 685, 686, 687, 688, 689] (by decide +kernel) (by decide +kernel)
set_option maxRecDepth 20000 in
theorem ggL_law_X12_sell_p5 : GoodIn wsL_law wsX12_sell_r5 := goodIn_r _ [690, 691, 692, 114, 108, 115, 116, 111, 117, 112, 693, 694, 695, 696, 104, 118, 697, 698, 699, 700, 701, 702, 703, 704] (by decide +kernel) (by decide +kernel)
set_option maxRecDepth 20000 in
theorem ggL_law_X12_sell_p6 : GoodIn wsL_law wsX12_sell_r6 := goodIn_r _ [705, 706, 707, 708, 709, 710, 711, 712, 713, 714, 715, 716, 717, 718, 719, 720, 787, 788, 789, 790] (by decide +kernel) (by decide +kernel)
set_option maxRecDepth 20000 in
theorem ggL_law_X12_sell_p7 : GoodIn wsL_law wsX120 := goodIn_r _ [998, 999, 1000, 1001, 1002, 1003, 1004, 1005, 1006, 1007, 1008, 1009, 1010, 1011, 1012, 1013, 1014, 1015, 1016, 1017, 1018, 1019, 1020, 1021, 1022, 1023, 1024, 1025, 1026, 1027, 1028, 1029, 1030, 1031, 1032, 1033, 1034] (by decide +kernel) (by decide +kernel)
set_option maxRecDepth 20000 in
theorem ggL_law_X12_sell : GoodIn wsL_law wsX12_sell := goodIn_ca (goodIn_ca (goodIn_app ggL_law_X12_sell_p0 (goodIn_app (goodIn_app ggL_law_X12_sell_p1 (goodIn_app ggL_law_X12_sell_p2 (goodIn_app ggL_law_X12_sell_p3 (goodIn_app ggL_law_X12_sell_p4 (goodIn_app ggL_law_X12_sell_p5 ggL_law_X12_sell_p6))))) ggL_law_X12_sell_p7)) (goodIn_sub (fun _ h => List.mem_append_left _ (List.mem_append_left _ (List.mem_append_left _ (List.mem_append_left _ (List.mem_append_left _ (List.mem_append_left _ (List.mem_append_left _ (List.mem_append_right _ h)))))))) (by decide +kernel))) (goodIn_sub (fun _ h => List.mem_append_left _ (List.mem_append_left _ (List.mem_append_right _ h))) (by decide +kernel))
set_option maxRecDepth 20000 in
theorem gL_law_X12_sell : GoodIn wsL_law (wsV RL 158 RX12 yX12_sell wsX12_sell) := goodIn_app (goodIn_of _ (by decide +kernel)) ggL_law_X12_sell
set_option maxRecDepth 20000 in
theorem ggL_law_L_giveBack : GoodIn wsL_law wsL_giveBack := goodIn_ca (goodIn_ca (goodIn_ca (goodIn_r _ [885, 171, 124, 886, 887, 888, 2, 889, 176, 177, 131, 132, 33, 890, 891, 892, 32, 893, 84, 894, 895, 896, 897, 85, 898, 899, 900, 901, 902, 87, 182, 183, 991, 992, 993, 994, 995, 996, 997, 1062, 1063, 1064, 1065, 1066, 1067, 1068, 1069, 1070] (by decide +kernel) (by decide +kernel)) (goodIn_sub (fun _ h => List.mem_append_left _ (List.mem_append_left _ (List.mem_append_left _ (List.mem_append_left _ (List.mem_append_left _ (List.mem_append_left _ (List.mem_append_left _ (List.mem_append_right _ h)))))))) (by decide +kernel))) (goodIn_sub (fun _ h => List.mem_append_left _ (List.mem_append_left _ (List.mem_append_left _ (List.mem_append_left _ (List.mem_append_right _ h))))) (by decide +kernel))) (goodIn_sub (fun _ h => List.mem_append_left _ (List.mem_append_left _ (List.mem_append_left _ (List.mem_append_left _ (List.mem_append_left _ (List.mem_append_right _ h)))))) (by decide +kernel))
set_option maxRecDepth 20000 in
theorem gL_law_L_giveBack : GoodIn wsL_law (va_wsS RL 159 yL_giveBack wsL_giveBack) := goodIn_app (goodIn_of _ (by decide +kernel)) ggL_law_L_giveBack
set_option maxRecDepth 20000 in
theorem ggL_law_X12_giveBack : GoodIn wsL_law wsX12_giveBack := goodIn_ca (goodIn_r _ [906, 97, 155, 882, 94, 907, 908, 909, 5, 910, 154, 161, 162, 163, 998, 999, 1000, 1001, 1002, 1003, 1004, 1005, 1006, 1007, 1008, 1009, 1010, 1011, 1012, 1013, 1014, 1015, 1016, 1017, 1018, 1019, 1020, 1021, 1022, 1023, 1024, 1025, 1026, 1027, 1028, 1029, 1030, 1031, 1032, 1033, 1034] (by decide +kernel) (by decide +kernel)) (goodIn_sub (fun _ h => List.mem_append_left _ (List.mem_append_left _ (List.mem_append_left _ (List.mem_append_left _ (List.mem_append_left _ (List.mem_append_left _ (List.mem_append_left _ (List.mem_append_right _ h)))))))) (by decide +kernel))
set_option maxRecDepth 20000 in
theorem gL_law_X12_giveBack : GoodIn wsL_law (wsV RL 161 RX12 yX12_giveBack wsX12_giveBack) := goodIn_app (goodIn_of _ (by decide +kernel)) ggL_law_X12_giveBack
set_option maxRecDepth 20000 in
theorem ggL_law_L_soldTo : GoodIn wsL_law wsL_soldTo := goodIn_ca (goodIn_ca (goodIn_r _ [913, 171, 914, 915, 916, 2, 917, 176, 177, 33, 890, 891, 892, 32, 893, 84, 918, 919, 920, 921, 86, 182, 183, 991, 992, 993, 994, 995, 996, 997, 1062, 1063, 1064, 1065, 1066, 1067, 1068, 1069, 1070] (by decide +kernel) (by decide +kernel)) (goodIn_sub (fun _ h => List.mem_append_left _ (List.mem_append_left _ (List.mem_append_left _ (List.mem_append_left _ (List.mem_append_left _ (List.mem_append_left _ (List.mem_append_left _ (List.mem_append_right _ h)))))))) (by decide +kernel))) (goodIn_sub (fun _ h => List.mem_append_left _ (List.mem_append_left _ (List.mem_append_left _ (List.mem_append_left _ (List.mem_append_right _ h))))) (by decide +kernel))
set_option maxRecDepth 20000 in
theorem gL_law_L_soldTo : GoodIn wsL_law (va_wsS RL 162 yL_soldTo wsL_soldTo) := goodIn_app (goodIn_of _ (by decide +kernel)) ggL_law_L_soldTo
set_option maxRecDepth 20000 in
theorem ggL_law_X12_soldTo : GoodIn wsL_law wsX12_soldTo := goodIn_ca (goodIn_r _ [925, 155, 95, 907, 908, 909, 5, 910, 154, 97, 161, 162, 163, 998, 999, 1000, 1001, 1002, 1003, 1004, 1005, 1006, 1007, 1008, 1009, 1010, 1011, 1012, 1013, 1014, 1015, 1016, 1017, 1018, 1019, 1020, 1021, 1022, 1023, 1024, 1025, 1026, 1027, 1028, 1029, 1030, 1031, 1032, 1033, 1034] (by decide +kernel) (by decide +kernel)) (goodIn_sub (fun _ h => List.mem_append_left _ (List.mem_append_left _ (List.mem_append_left _ (List.mem_append_left _ (List.mem_append_left _ (List.mem_append_left _ (List.mem_append_left _ (List.mem_append_right _ h)))))))) (by decide +kernel))
set_option maxRecDepth 20000 in
theorem gL_law_X12_soldTo : GoodIn wsL_law (wsV RL 164 RX12 yX12_soldTo wsX12_soldTo) := goodIn_app (goodIn_of _ (by decide +kernel)) ggL_law_X12_soldTo
set_option maxRecDepth 20000 in
theorem ggL_law_X11_usesInAll : GoodIn wsL_law wsX11_usesInAll := goodIn_r _ [929, 33, 930, 931, 932, 32, 933, 872, 991, 992, 993, 994, 995, 996, 997, 1062, 1063, 1064, 1065, 1066, 1067, 1068, 1069, 1070] (by decide +kernel) (by decide +kernel)
set_option maxRecDepth 20000 in
theorem gL_law_X11_usesInAll : GoodIn wsL_law (wsV RL 165 RX11 yX11_usesInAll wsX11_usesInAll) := goodIn_app (goodIn_of _ (by decide +kernel)) ggL_law_X11_usesInAll
set_option maxRecDepth 20000 in
theorem ggL_law_X12_usesInAll : GoodIn wsL_law wsX12_usesInAll := goodIn_r _ [937, 155, 881, 998, 999, 1000, 1001, 1002, 1003, 1004, 1005, 1006, 1007, 1008, 1009, 1010, 1011, 1012, 1013, 1014, 1015, 1016, 1017, 1018, 1019, 1020, 1021, 1022, 1023, 1024, 1025, 1026, 1027, 1028, 1029, 1030, 1031, 1032, 1033, 1034] (by decide +kernel) (by decide +kernel)
set_option maxRecDepth 20000 in
theorem gL_law_X12_usesInAll : GoodIn wsL_law (wsV RL 168 RX12 yX12_usesInAll wsX12_usesInAll) := goodIn_app (goodIn_of _ (by decide +kernel)) ggL_law_X12_usesInAll
set_option maxRecDepth 20000 in
theorem ggL_law_X11_turnover : GoodIn wsL_law wsX11_turnover := goodIn_r _ [941, 33, 942, 943, 944, 32, 945, 863, 902, 991, 992, 993, 994, 995, 996, 997, 1062, 1063, 1064, 1065, 1066, 1067, 1068, 1069, 1070] (by decide +kernel) (by decide +kernel)
set_option maxRecDepth 20000 in
theorem gL_law_X11_turnover : GoodIn wsL_law (wsV RL 169 RX11 yX11_turnover wsX11_turnover) := goodIn_app (goodIn_of _ (by decide +kernel)) ggL_law_X11_turnover
set_option maxRecDepth 20000 in
theorem ggL_law_X12_turnover : GoodIn wsL_law wsX12_turnover := goodIn_r _ [949, 155, 882, 998, 999, 1000, 1001, 1002, 1003, 1004, 1005, 1006, 1007, 1008, 1009, 1010, 1011, 1012, 1013, 1014, 1015, 1016, 1017, 1018, 1019, 1020, 1021, 1022, 1023, 1024, 1025, 1026, 1027, 1028, 1029, 1030, 1031, 1032, 1033, 1034] (by decide +kernel) (by decide +kernel)
set_option maxRecDepth 20000 in
theorem gL_law_X12_turnover : GoodIn wsL_law (wsV RL 173 RX12 yX12_turnover wsX12_turnover) := goodIn_app (goodIn_of _ (by decide +kernel)) ggL_law_X12_turnover
set_option maxRecDepth 20000 in
theorem ggL_law_L_discountShare : GoodIn wsL_law wsL_discountShare := goodIn_ca (goodIn_ca (goodIn_r _ [952, 953, 954, 955, 956, 2, 957, 958, 959, 33, 960, 961, 962, 32, 963, 862, 964, 965, 966, 967, 863, 991, 992, 993, 994, 995, 996, 997, 1062, 1063, 1064, 1065, 1066, 1067, 1068, 1069, 1070] (by decide +kernel) (by decide +kernel)) (goodIn_sub (fun _ h => List.mem_append_left _ (List.mem_append_left _ (List.mem_append_left _ (List.mem_append_left _ (List.mem_append_left _ (List.mem_append_left _ (List.mem_append_left _ (List.mem_append_right _ h)))))))) (by decide +kernel))) (goodIn_sub (fun _ h => List.mem_append_right _ h) (by decide +kernel))
set_option maxRecDepth 20000 in
theorem gL_law_L_discountShare : GoodIn wsL_law (va_wsS RL 174 yL_discountShare wsL_discountShare) := goodIn_app (goodIn_of _ (by decide +kernel)) ggL_law_L_discountShare
set_option maxRecDepth 20000 in
theorem ggL_law_X12_discountShare : GoodIn wsL_law wsX12_discountShare := goodIn_ca (goodIn_r _ [971, 155, 972, 973, 974, 5, 975, 154, 93, 94, 907, 908, 909, 910, 97, 161, 162, 163, 998, 999, 1000, 1001, 1002, 1003, 1004, 1005, 1006, 1007, 1008, 1009, 1010, 1011, 1012, 1013, 1014, 1015, 1016, 1017, 1018, 1019, 1020, 1021, 1022, 1023, 1024, 1025, 1026, 1027, 1028, 1029, 1030, 1031, 1032, 1033, 1034] (by decide +kernel) (by decide +kernel)) (goodIn_sub (fun _ h => List.mem_append_left _ (List.mem_append_left _ (List.mem_append_left _ (List.mem_append_left _ (List.mem_append_left _ (List.mem_append_left _ (List.mem_append_left _ (List.mem_append_right _ h)))))))) (by decide +kernel))
set_option maxRecDepth 20000 in
theorem gL_law_X12_discountShare : GoodIn wsL_law (wsV RL 177 RX12 yX12_discountShare wsX12_discountShare) := goodIn_app (goodIn_of _ (by decide +kernel)) ggL_law_X12_discountShare
set_option maxRecDepth 20000 in
theorem ggL_law_L_meanNetPrice : GoodIn wsL_law wsL_meanNetPrice := goodIn_ca (goodIn_ca (goodIn_r _ [978, 953, 979, 980, 981, 2, 982, 958, 959, 33, 983, 984, 985, 32, 986, 861, 964, 965, 966, 967, 863, 991, 992, 993, 994, 995, 996, 997, 1062, 1063, 1064, 1065, 1066, 1067, 1068, 1069, 1070] (by decide +kernel) (by decide +kernel)) (goodIn_sub (fun _ h => List.mem_append_left _ (List.mem_append_left _ (List.mem_append_left _ (List.mem_append_left _ (List.mem_append_left _ (List.mem_append_left _ (List.mem_append_left _ (List.mem_append_right _ h)))))))) (by decide +kernel))) (goodIn_sub (fun _ h => List.mem_append_right _ h) (by decide +kernel))
set_option maxRecDepth 20000 in
theorem gL_law_L_meanNetPrice : GoodIn wsL_law (va_wsS RL 178 yL_meanNetPrice wsL_meanNetPrice) := goodIn_app (goodIn_of _ (by decide +kernel)) ggL_law_L_meanNetPrice
set_option maxRecDepth 20000 in
theorem ggL_law_X12_meanNetPrice : GoodIn wsL_law wsX12_meanNetPrice := goodIn_ca (goodIn_r _ [990, 155, 972, 973, 974, 5, 975, 154, 93, 94, 907, 908, 909, 910, 97, 161, 162, 163, 998, 999, 1000, 1001, 1002, 1003, 1004, 1005, 1006, 1007, 1008, 1009, 1010, 1011, 1012, 1013, 1014, 1015, 1016, 1017, 1018, 1019, 1020, 1021, 1022, 1023, 1024, 1025, 1026, 1027, 1028, 1029, 1030, 1031, 1032, 1033, 1034] (by decide +kernel) (by decide +kernel)) (goodIn_sub (fun _ h => List.mem_append_left _ (List.mem_append_left _ (List.mem_append_left _ (List.mem_append_left _ (List.mem_append_left _ (List.mem_append_left _ (List.mem_append_left _ (List.mem_append_right _ h)))))))) (by decide +kernel))
set_option maxRecDepth 20000 in
theorem gL_law_X12_meanNetPrice : GoodIn wsL_law (wsV RL 180 RX12 yX12_meanNetPrice wsX12_meanNetPrice) := goodIn_app (goodIn_of _ (by decide +kernel)) ggL_law_X12_meanNetPrice
theorem dL_law_0 : decode cL_law 0 = .ok (.new 8, 3) := by decide +kernel
theorem dL_law_3 : decode cL_law 3 = .ok (.dup, 1) := by decide +kernel
theorem dL_law_4 : decode cL_law 4 = .ok (.invokespecial 83, 3) := by decide +kernel
theorem dL_law_7 : decode cL_law 7 = .ok (.astore_n 1, 1) := by decide +kernel
theorem dL_law_8 : decode cL_law 8 = .ok (.new 84, 3) := by decide +kernel
theorem dL_law_11 : decode cL_law 11 = .ok (.dup, 1) := by decide +kernel
theorem dL_law_12 : decode cL_law 12 = .ok (.invokespecial 86, 3) := by decide +kernel
theorem dL_law_15 : decode cL_law 15 = .ok (.astore_n 2, 1) := by decide +kernel
theorem dL_law_16 : decode cL_law 16 = .ok (.iconst 1, 1) := by decide +kernel
theorem dL_law_17 : decode cL_law 17 = .ok (.newarray .long, 2) := by decide +kernel
theorem dL_law_19 : decode cL_law 19 = .ok (.astore_n 3, 1) := by decide +kernel
theorem dL_law_20 : decode cL_law 20 = .ok (.iconst 1, 1) := by decide +kernel
theorem dL_law_21 : decode cL_law 21 = .ok (.newarray .double, 2) := by decide +kernel
theorem dL_law_23 : decode cL_law 23 = .ok (.astore 4, 2) := by decide +kernel
theorem dL_law_25 : decode cL_law 25 = .ok (.iconst 0, 1) := by decide +kernel
theorem dL_law_26 : decode cL_law 26 = .ok (.istore 5, 2) := by decide +kernel
theorem dL_law_28 : decode cL_law 28 = .ok (.iload 5, 2) := by decide +kernel
theorem dL_law_30 : decode cL_law 30 = .ok (.aload_n 0, 1) := by decide +kernel
theorem dL_law_31 : decode cL_law 31 = .ok (.arraylength, 1) := by decide +kernel
theorem dL_law_32 : decode cL_law 32 = .ok (.bipush 7, 2) := by decide +kernel
theorem dL_law_34 : decode cL_law 34 = .ok (.isub, 1) := by decide +kernel
theorem dL_law_35 : decode cL_law 35 = .ok (.if_icmp .gt 1408, 3) := by decide +kernel
theorem dL_law_38 : decode cL_law 38 = .ok (.aload_n 0, 1) := by decide +kernel
theorem dL_law_39 : decode cL_law 39 = .ok (.iload 5, 2) := by decide +kernel
theorem dL_law_41 : decode cL_law 41 = .ok (.iaload, 1) := by decide +kernel
theorem dL_law_42 : decode cL_law 42 = .ok (.bipush 31, 2) := by decide +kernel
theorem dL_law_44 : decode cL_law 44 = .ok (.iand, 1) := by decide +kernel
theorem dL_law_45 : decode cL_law 45 = .ok (.tableswitch 1392 0 24 #[115, 183, 239, 295, 308, 321, 413, 505, 623, 715, 771, 784, 797, 841, 897, 953, 1009, 1065, 1078, 1122, 1178, 1234, 1247, 1261, 1327], 115) := by decide +kernel
theorem dL_law_160 : decode cL_law 160 = .ok (.aload_n 1, 1) := by decide +kernel
theorem dL_law_161 : decode cL_law 161 = .ok (.aload_n 0, 1) := by decide +kernel
theorem dL_law_162 : decode cL_law 162 = .ok (.iload 5, 2) := by decide +kernel
theorem dL_law_164 : decode cL_law 164 = .ok (.iconst 1, 1) := by decide +kernel
theorem dL_law_165 : decode cL_law 165 = .ok (.iadd, 1) := by decide +kernel
theorem dL_law_166 : decode cL_law 166 = .ok (.iaload, 1) := by decide +kernel
theorem dL_law_167 : decode cL_law 167 = .ok (.aload_n 0, 1) := by decide +kernel
theorem dL_law_168 : decode cL_law 168 = .ok (.iload 5, 2) := by decide +kernel
theorem dL_law_170 : decode cL_law 170 = .ok (.iconst 2, 1) := by decide +kernel
theorem dL_law_171 : decode cL_law 171 = .ok (.iadd, 1) := by decide +kernel
theorem dL_law_172 : decode cL_law 172 = .ok (.iaload, 1) := by decide +kernel
theorem dL_law_173 : decode cL_law 173 = .ok (.aload_n 3, 1) := by decide +kernel
theorem dL_law_174 : decode cL_law 174 = .ok (.invokestatic 87, 3) := by decide +kernel
theorem dL_law_177 : decode cL_law 177 = .ok (.istore 6, 2) := by decide +kernel
theorem dL_law_179 : decode cL_law 179 = .ok (.aload_n 2, 1) := by decide +kernel
theorem dL_law_180 : decode cL_law 180 = .ok (.aload_n 0, 1) := by decide +kernel
theorem dL_law_181 : decode cL_law 181 = .ok (.iload 5, 2) := by decide +kernel
theorem dL_law_183 : decode cL_law 183 = .ok (.iconst 1, 1) := by decide +kernel
theorem dL_law_184 : decode cL_law 184 = .ok (.iadd, 1) := by decide +kernel
theorem dL_law_185 : decode cL_law 185 = .ok (.iaload, 1) := by decide +kernel
theorem dL_law_186 : decode cL_law 186 = .ok (.aload_n 0, 1) := by decide +kernel
theorem dL_law_187 : decode cL_law 187 = .ok (.iload 5, 2) := by decide +kernel
theorem dL_law_189 : decode cL_law 189 = .ok (.iconst 2, 1) := by decide +kernel
theorem dL_law_190 : decode cL_law 190 = .ok (.iadd, 1) := by decide +kernel
theorem dL_law_191 : decode cL_law 191 = .ok (.iaload, 1) := by decide +kernel
theorem dL_law_192 : decode cL_law 192 = .ok (.invokevirtual 92, 3) := by decide +kernel
theorem dL_law_195 : decode cL_law 195 = .ok (.istore 7, 2) := by decide +kernel
theorem dL_law_197 : decode cL_law 197 = .ok (.aload_n 2, 1) := by decide +kernel
theorem dL_law_198 : decode cL_law 198 = .ok (.invokevirtual 93, 3) := by decide +kernel
theorem dL_law_201 : decode cL_law 201 = .ok (.iload 6, 2) := by decide +kernel
theorem dL_law_203 : decode cL_law 203 = .ok (.if_icmp .eq 5, 3) := by decide +kernel
theorem dL_law_206 : decode cL_law 206 = .ok (.iconst 0, 1) := by decide +kernel
theorem dL_law_207 : decode cL_law 207 = .ok (.ireturn, 1) := by decide +kernel
theorem dL_law_208 : decode cL_law 208 = .ok (.iload 6, 2) := by decide +kernel
theorem dL_law_210 : decode cL_law 210 = .ok (.ifCond .ne 15, 3) := by decide +kernel
theorem dL_law_213 : decode cL_law 213 = .ok (.aload_n 3, 1) := by decide +kernel
theorem dL_law_214 : decode cL_law 214 = .ok (.iconst 0, 1) := by decide +kernel
theorem dL_law_215 : decode cL_law 215 = .ok (.laload, 1) := by decide +kernel
theorem dL_law_216 : decode cL_law 216 = .ok (.iload 7, 2) := by decide +kernel
theorem dL_law_218 : decode cL_law 218 = .ok (.i2l, 1) := by decide +kernel
theorem dL_law_219 : decode cL_law 219 = .ok (.lcmp, 1) := by decide +kernel
theorem dL_law_220 : decode cL_law 220 = .ok (.ifCond .eq 5, 3) := by decide +kernel
theorem dL_law_223 : decode cL_law 223 = .ok (.iconst 0, 1) := by decide +kernel
theorem dL_law_224 : decode cL_law 224 = .ok (.ireturn, 1) := by decide +kernel
theorem dL_law_225 : decode cL_law 225 = .ok (.goto 1212, 3) := by decide +kernel
theorem dL_law_228 : decode cL_law 228 = .ok (.aload_n 1, 1) := by decide +kernel
theorem dL_law_229 : decode cL_law 229 = .ok (.aload_n 0, 1) := by decide +kernel
theorem dL_law_230 : decode cL_law 230 = .ok (.iload 5, 2) := by decide +kernel
theorem dL_law_232 : decode cL_law 232 = .ok (.iconst 1, 1) := by decide +kernel
theorem dL_law_233 : decode cL_law 233 = .ok (.iadd, 1) := by decide +kernel
theorem dL_law_234 : decode cL_law 234 = .ok (.iaload, 1) := by decide +kernel
theorem dL_law_235 : decode cL_law 235 = .ok (.aload_n 3, 1) := by decide +kernel
theorem dL_law_236 : decode cL_law 236 = .ok (.invokestatic 96, 3) := by decide +kernel
theorem dL_law_239 : decode cL_law 239 = .ok (.istore 6, 2) := by decide +kernel
theorem dL_law_241 : decode cL_law 241 = .ok (.aload_n 2, 1) := by decide +kernel
theorem dL_law_242 : decode cL_law 242 = .ok (.aload_n 0, 1) := by decide +kernel
theorem dL_law_243 : decode cL_law 243 = .ok (.iload 5, 2) := by decide +kernel
theorem dL_law_245 : decode cL_law 245 = .ok (.iconst 1, 1) := by decide +kernel
theorem dL_law_246 : decode cL_law 246 = .ok (.iadd, 1) := by decide +kernel
theorem dL_law_247 : decode cL_law 247 = .ok (.iaload, 1) := by decide +kernel
theorem dL_law_248 : decode cL_law 248 = .ok (.invokevirtual 99, 3) := by decide +kernel
theorem dL_law_251 : decode cL_law 251 = .ok (.istore 7, 2) := by decide +kernel
theorem dL_law_253 : decode cL_law 253 = .ok (.aload_n 2, 1) := by decide +kernel
theorem dL_law_254 : decode cL_law 254 = .ok (.invokevirtual 93, 3) := by decide +kernel
theorem dL_law_257 : decode cL_law 257 = .ok (.iload 6, 2) := by decide +kernel
theorem dL_law_259 : decode cL_law 259 = .ok (.if_icmp .eq 5, 3) := by decide +kernel
theorem dL_law_262 : decode cL_law 262 = .ok (.iconst 0, 1) := by decide +kernel
theorem dL_law_263 : decode cL_law 263 = .ok (.ireturn, 1) := by decide +kernel
theorem dL_law_264 : decode cL_law 264 = .ok (.iload 6, 2) := by decide +kernel
theorem dL_law_266 : decode cL_law 266 = .ok (.ifCond .ne 15, 3) := by decide +kernel
theorem dL_law_269 : decode cL_law 269 = .ok (.aload_n 3, 1) := by decide +kernel
theorem dL_law_270 : decode cL_law 270 = .ok (.iconst 0, 1) := by decide +kernel
theorem dL_law_271 : decode cL_law 271 = .ok (.laload, 1) := by decide +kernel
theorem dL_law_272 : decode cL_law 272 = .ok (.iload 7, 2) := by decide +kernel
theorem dL_law_274 : decode cL_law 274 = .ok (.i2l, 1) := by decide +kernel
theorem dL_law_275 : decode cL_law 275 = .ok (.lcmp, 1) := by decide +kernel
theorem dL_law_276 : decode cL_law 276 = .ok (.ifCond .eq 5, 3) := by decide +kernel
theorem dL_law_279 : decode cL_law 279 = .ok (.iconst 0, 1) := by decide +kernel
theorem dL_law_280 : decode cL_law 280 = .ok (.ireturn, 1) := by decide +kernel
theorem dL_law_281 : decode cL_law 281 = .ok (.goto 1156, 3) := by decide +kernel
theorem dL_law_284 : decode cL_law 284 = .ok (.aload_n 1, 1) := by decide +kernel
theorem dL_law_285 : decode cL_law 285 = .ok (.aload_n 0, 1) := by decide +kernel
theorem dL_law_286 : decode cL_law 286 = .ok (.iload 5, 2) := by decide +kernel
theorem dL_law_288 : decode cL_law 288 = .ok (.iconst 1, 1) := by decide +kernel
theorem dL_law_289 : decode cL_law 289 = .ok (.iadd, 1) := by decide +kernel
theorem dL_law_290 : decode cL_law 290 = .ok (.iaload, 1) := by decide +kernel
theorem dL_law_291 : decode cL_law 291 = .ok (.aload_n 3, 1) := by decide +kernel
theorem dL_law_292 : decode cL_law 292 = .ok (.invokestatic 100, 3) := by decide +kernel
theorem dL_law_295 : decode cL_law 295 = .ok (.istore 6, 2) := by decide +kernel
theorem dL_law_297 : decode cL_law 297 = .ok (.aload_n 2, 1) := by decide +kernel
theorem dL_law_298 : decode cL_law 298 = .ok (.aload_n 0, 1) := by decide +kernel
theorem dL_law_299 : decode cL_law 299 = .ok (.iload 5, 2) := by decide +kernel
theorem dL_law_301 : decode cL_law 301 = .ok (.iconst 1, 1) := by decide +kernel
theorem dL_law_302 : decode cL_law 302 = .ok (.iadd, 1) := by decide +kernel
theorem dL_law_303 : decode cL_law 303 = .ok (.iaload, 1) := by decide +kernel
theorem dL_law_304 : decode cL_law 304 = .ok (.invokevirtual 102, 3) := by decide +kernel
theorem dL_law_307 : decode cL_law 307 = .ok (.istore 7, 2) := by decide +kernel
theorem dL_law_309 : decode cL_law 309 = .ok (.aload_n 2, 1) := by decide +kernel
theorem dL_law_310 : decode cL_law 310 = .ok (.invokevirtual 93, 3) := by decide +kernel
theorem dL_law_313 : decode cL_law 313 = .ok (.iload 6, 2) := by decide +kernel
theorem dL_law_315 : decode cL_law 315 = .ok (.if_icmp .eq 5, 3) := by decide +kernel
theorem dL_law_318 : decode cL_law 318 = .ok (.iconst 0, 1) := by decide +kernel
theorem dL_law_319 : decode cL_law 319 = .ok (.ireturn, 1) := by decide +kernel
theorem dL_law_320 : decode cL_law 320 = .ok (.iload 6, 2) := by decide +kernel
theorem dL_law_322 : decode cL_law 322 = .ok (.ifCond .ne 15, 3) := by decide +kernel
theorem dL_law_325 : decode cL_law 325 = .ok (.aload_n 3, 1) := by decide +kernel
theorem dL_law_326 : decode cL_law 326 = .ok (.iconst 0, 1) := by decide +kernel
theorem dL_law_327 : decode cL_law 327 = .ok (.laload, 1) := by decide +kernel
theorem dL_law_328 : decode cL_law 328 = .ok (.iload 7, 2) := by decide +kernel
theorem dL_law_330 : decode cL_law 330 = .ok (.i2l, 1) := by decide +kernel
theorem dL_law_331 : decode cL_law 331 = .ok (.lcmp, 1) := by decide +kernel
theorem dL_law_332 : decode cL_law 332 = .ok (.ifCond .eq 5, 3) := by decide +kernel
theorem dL_law_335 : decode cL_law 335 = .ok (.iconst 0, 1) := by decide +kernel
theorem dL_law_336 : decode cL_law 336 = .ok (.ireturn, 1) := by decide +kernel
theorem dL_law_337 : decode cL_law 337 = .ok (.goto 1100, 3) := by decide +kernel
theorem dL_law_340 : decode cL_law 340 = .ok (.aload_n 1, 1) := by decide +kernel
theorem dL_law_341 : decode cL_law 341 = .ok (.invokevirtual 103, 3) := by decide +kernel
theorem dL_law_344 : decode cL_law 344 = .ok (.aload_n 2, 1) := by decide +kernel
theorem dL_law_345 : decode cL_law 345 = .ok (.invokevirtual 106, 3) := by decide +kernel
theorem dL_law_348 : decode cL_law 348 = .ok (.if_icmp .eq 1089, 3) := by decide +kernel
theorem dL_law_351 : decode cL_law 351 = .ok (.iconst 0, 1) := by decide +kernel
theorem dL_law_352 : decode cL_law 352 = .ok (.ireturn, 1) := by decide +kernel
theorem dL_law_353 : decode cL_law 353 = .ok (.aload_n 1, 1) := by decide +kernel
theorem dL_law_354 : decode cL_law 354 = .ok (.invokevirtual 107, 3) := by decide +kernel
theorem dL_law_357 : decode cL_law 357 = .ok (.aload_n 2, 1) := by decide +kernel
theorem dL_law_358 : decode cL_law 358 = .ok (.invokevirtual 110, 3) := by decide +kernel
theorem dL_law_361 : decode cL_law 361 = .ok (.if_icmp .eq 1076, 3) := by decide +kernel
theorem dL_law_364 : decode cL_law 364 = .ok (.iconst 0, 1) := by decide +kernel
theorem dL_law_365 : decode cL_law 365 = .ok (.ireturn, 1) := by decide +kernel
theorem dL_law_366 : decode cL_law 366 = .ok (.aload_n 1, 1) := by decide +kernel
theorem dL_law_367 : decode cL_law 367 = .ok (.aload_n 0, 1) := by decide +kernel
theorem dL_law_368 : decode cL_law 368 = .ok (.iload 5, 2) := by decide +kernel
theorem dL_law_370 : decode cL_law 370 = .ok (.iconst 1, 1) := by decide +kernel
theorem dL_law_371 : decode cL_law 371 = .ok (.iadd, 1) := by decide +kernel
theorem dL_law_372 : decode cL_law 372 = .ok (.iaload, 1) := by decide +kernel
theorem dL_law_373 : decode cL_law 373 = .ok (.aload_n 0, 1) := by decide +kernel
theorem dL_law_374 : decode cL_law 374 = .ok (.iload 5, 2) := by decide +kernel
theorem dL_law_376 : decode cL_law 376 = .ok (.iconst 2, 1) := by decide +kernel
theorem dL_law_377 : decode cL_law 377 = .ok (.iadd, 1) := by decide +kernel
theorem dL_law_378 : decode cL_law 378 = .ok (.iaload, 1) := by decide +kernel
theorem dL_law_379 : decode cL_law 379 = .ok (.aload_n 0, 1) := by decide +kernel
theorem dL_law_380 : decode cL_law 380 = .ok (.iload 5, 2) := by decide +kernel
theorem dL_law_382 : decode cL_law 382 = .ok (.iconst 3, 1) := by decide +kernel
theorem dL_law_383 : decode cL_law 383 = .ok (.iadd, 1) := by decide +kernel
theorem dL_law_384 : decode cL_law 384 = .ok (.iaload, 1) := by decide +kernel
theorem dL_law_385 : decode cL_law 385 = .ok (.aload_n 0, 1) := by decide +kernel
theorem dL_law_386 : decode cL_law 386 = .ok (.iload 5, 2) := by decide +kernel
theorem dL_law_388 : decode cL_law 388 = .ok (.iconst 4, 1) := by decide +kernel
theorem dL_law_389 : decode cL_law 389 = .ok (.iadd, 1) := by decide +kernel
theorem dL_law_390 : decode cL_law 390 = .ok (.iaload, 1) := by decide +kernel
theorem dL_law_391 : decode cL_law 391 = .ok (.aload_n 3, 1) := by decide +kernel
theorem dL_law_392 : decode cL_law 392 = .ok (.invokestatic 111, 3) := by decide +kernel
theorem dL_law_395 : decode cL_law 395 = .ok (.istore 6, 2) := by decide +kernel
theorem dL_law_397 : decode cL_law 397 = .ok (.aload_n 2, 1) := by decide +kernel
theorem dL_law_398 : decode cL_law 398 = .ok (.aload_n 0, 1) := by decide +kernel
theorem dL_law_399 : decode cL_law 399 = .ok (.iload 5, 2) := by decide +kernel
theorem dL_law_401 : decode cL_law 401 = .ok (.iconst 1, 1) := by decide +kernel
theorem dL_law_402 : decode cL_law 402 = .ok (.iadd, 1) := by decide +kernel
theorem dL_law_403 : decode cL_law 403 = .ok (.iaload, 1) := by decide +kernel
theorem dL_law_404 : decode cL_law 404 = .ok (.aload_n 0, 1) := by decide +kernel
theorem dL_law_405 : decode cL_law 405 = .ok (.iload 5, 2) := by decide +kernel
theorem dL_law_407 : decode cL_law 407 = .ok (.iconst 2, 1) := by decide +kernel
theorem dL_law_408 : decode cL_law 408 = .ok (.iadd, 1) := by decide +kernel
theorem dL_law_409 : decode cL_law 409 = .ok (.iaload, 1) := by decide +kernel
theorem dL_law_410 : decode cL_law 410 = .ok (.aload_n 0, 1) := by decide +kernel
theorem dL_law_411 : decode cL_law 411 = .ok (.iload 5, 2) := by decide +kernel
theorem dL_law_413 : decode cL_law 413 = .ok (.iconst 3, 1) := by decide +kernel
