theorem dX12_adds_75 : decode cX12_adds 75 = .ok (.iload_n 2, 1) := by decide +kernel
theorem dX12_adds_76 : decode cX12_adds 76 = .ok (.iastore, 1) := by decide +kernel
theorem dX12_adds_77 : decode cX12_adds 77 = .ok (.aload_n 0, 1) := by decide +kernel
theorem dX12_adds_78 : decode cX12_adds 78 = .ok (.getfield 32, 3) := by decide +kernel
theorem dX12_adds_81 : decode cX12_adds 81 = .ok (.aload_n 0, 1) := by decide +kernel
theorem dX12_adds_82 : decode cX12_adds 82 = .ok (.getfield 121, 3) := by decide +kernel
theorem dX12_adds_85 : decode cX12_adds 85 = .ok (.iload_n 3, 1) := by decide +kernel
theorem dX12_adds_86 : decode cX12_adds 86 = .ok (.iastore, 1) := by decide +kernel
theorem dX12_adds_87 : decode cX12_adds 87 = .ok (.aload_n 0, 1) := by decide +kernel
theorem dX12_adds_88 : decode cX12_adds 88 = .ok (.getfield 35, 3) := by decide +kernel
theorem dX12_adds_91 : decode cX12_adds 91 = .ok (.aload_n 0, 1) := by decide +kernel
theorem dX12_adds_92 : decode cX12_adds 92 = .ok (.getfield 121, 3) := by decide +kernel
theorem dX12_adds_95 : decode cX12_adds 95 = .ok (.iload 4, 2) := by decide +kernel
theorem dX12_adds_97 : decode cX12_adds 97 = .ok (.iastore, 1) := by decide +kernel
theorem dX12_adds_98 : decode cX12_adds 98 = .ok (.aload_n 0, 1) := by decide +kernel
theorem dX12_adds_99 : decode cX12_adds 99 = .ok (.getfield 41, 3) := by decide +kernel
theorem dX12_adds_102 : decode cX12_adds 102 = .ok (.aload_n 0, 1) := by decide +kernel
theorem dX12_adds_103 : decode cX12_adds 103 = .ok (.getfield 121, 3) := by decide +kernel
theorem dX12_adds_106 : decode cX12_adds 106 = .ok (.iload 6, 2) := by decide +kernel
theorem dX12_adds_108 : decode cX12_adds 108 = .ok (.iastore, 1) := by decide +kernel
theorem dX12_adds_109 : decode cX12_adds 109 = .ok (.aload_n 0, 1) := by decide +kernel
theorem dX12_adds_110 : decode cX12_adds 110 = .ok (.getfield 44, 3) := by decide +kernel
theorem dX12_adds_113 : decode cX12_adds 113 = .ok (.aload_n 0, 1) := by decide +kernel
theorem dX12_adds_114 : decode cX12_adds 114 = .ok (.getfield 121, 3) := by decide +kernel
theorem dX12_adds_117 : decode cX12_adds 117 = .ok (.iload 7, 2) := by decide +kernel
theorem dX12_adds_119 : decode cX12_adds 119 = .ok (.iastore, 1) := by decide +kernel
theorem dX12_adds_120 : decode cX12_adds 120 = .ok (.aload_n 0, 1) := by decide +kernel
theorem dX12_adds_121 : decode cX12_adds 121 = .ok (.dup, 1) := by decide +kernel
theorem dX12_adds_122 : decode cX12_adds 122 = .ok (.getfield 121, 3) := by decide +kernel
theorem dX12_adds_125 : decode cX12_adds 125 = .ok (.iconst 1, 1) := by decide +kernel
theorem dX12_adds_126 : decode cX12_adds 126 = .ok (.iadd, 1) := by decide +kernel
theorem dX12_adds_127 : decode cX12_adds 127 = .ok (.putfield 121, 3) := by decide +kernel
theorem dX12_adds_130 : decode cX12_adds 130 = .ok (.aload_n 0, 1) := by decide +kernel
theorem dX12_adds_131 : decode cX12_adds 131 = .ok (.iconst 0, 1) := by decide +kernel
theorem dX12_adds_132 : decode cX12_adds 132 = .ok (.putfield 106, 3) := by decide +kernel
theorem dX12_adds_135 : decode cX12_adds 135 = .ok (.aload_n 0, 1) := by decide +kernel
theorem dX12_adds_136 : decode cX12_adds 136 = .ok (.getfield 121, 3) := by decide +kernel
theorem dX12_adds_139 : decode cX12_adds 139 = .ok (.iconst 1, 1) := by decide +kernel
theorem dX12_adds_140 : decode cX12_adds 140 = .ok (.isub, 1) := by decide +kernel
theorem dX12_adds_141 : decode cX12_adds 141 = .ok (.ireturn, 1) := by decide +kernel
set_option maxRecDepth 20000 in
theorem ggX12_addPercentage_X12_in : GoodIn wsX12_addPercentage wsX12_in := goodIn_r _ [4] (by decide +kernel) (by decide +kernel)
set_option maxRecDepth 20000 in
theorem gX12_addPercentage_X12_in : GoodIn wsX12_addPercentage (va_wsS RX12 99 yX12_in wsX12_in) := goodIn_app (goodIn_of _ (by decide +kernel)) ggX12_addPercentage_X12_in
set_option maxRecDepth 20000 in
theorem ggX12_addPercentage_X12_adds : GoodIn wsX12_addPercentage wsX12_adds := goodIn_ca (goodIn_r _ [8, 9, 10, 11, 12, 13, 14, 15, 16, 17, 1, 2, 3, 4, 18, 19, 20, 21, 22, 23, 24, 25, 26, 27, 28, 29, 30, 31, 32, 33, 34, 35, 36, 37, 38, 39, 40, 41, 42, 43, 44, 45, 46, 47, 48, 49, 50, 51, 52, 53, 54] (by decide +kernel) (by decide +kernel)) (goodIn_sub (fun _ h => List.mem_cons_of_mem _ (List.mem_append_right _ h)) (by decide +kernel))
set_option maxRecDepth 20000 in
theorem gX12_addPercentage_X12_adds : GoodIn wsX12_addPercentage (wsV RX12 124 RX12 yX12_adds wsX12_adds) := goodIn_app (goodIn_of _ (by decide +kernel)) ggX12_addPercentage_X12_adds
theorem dX12_addPercentage_0 : decode cX12_addPercentage 0 = .ok (.aload_n 0, 1) := by decide +kernel
theorem dX12_addPercentage_1 : decode cX12_addPercentage 1 = .ok (.bipush 112, 2) := by decide +kernel
theorem dX12_addPercentage_3 : decode cX12_addPercentage 3 = .ok (.iload_n 1, 1) := by decide +kernel
theorem dX12_addPercentage_4 : decode cX12_addPercentage 4 = .ok (.iload_n 2, 1) := by decide +kernel
theorem dX12_addPercentage_5 : decode cX12_addPercentage 5 = .ok (.iconst (-1), 1) := by decide +kernel
theorem dX12_addPercentage_6 : decode cX12_addPercentage 6 = .ok (.iload_n 1, 1) := by decide +kernel
theorem dX12_addPercentage_7 : decode cX12_addPercentage 7 = .ok (.iconst 0, 1) := by decide +kernel
theorem dX12_addPercentage_8 : decode cX12_addPercentage 8 = .ok (.bipush 9, 2) := by decide +kernel
theorem dX12_addPercentage_10 : decode cX12_addPercentage 10 = .ok (.invokestatic 99, 3) := by decide +kernel
theorem dX12_addPercentage_13 : decode cX12_addPercentage 13 = .ok (.ifCond .eq 17, 3) := by decide +kernel
theorem dX12_addPercentage_16 : decode cX12_addPercentage 16 = .ok (.iload_n 2, 1) := by decide +kernel
theorem dX12_addPercentage_17 : decode cX12_addPercentage 17 = .ok (.iconst 1, 1) := by decide +kernel
theorem dX12_addPercentage_18 : decode cX12_addPercentage 18 = .ok (.bipush 90, 2) := by decide +kernel
theorem dX12_addPercentage_20 : decode cX12_addPercentage 20 = .ok (.invokestatic 99, 3) := by decide +kernel
theorem dX12_addPercentage_23 : decode cX12_addPercentage 23 = .ok (.ifCond .eq 7, 3) := by decide +kernel
theorem dX12_addPercentage_26 : decode cX12_addPercentage 26 = .ok (.iconst 1, 1) := by decide +kernel
theorem dX12_addPercentage_27 : decode cX12_addPercentage 27 = .ok (.goto 4, 3) := by decide +kernel
theorem dX12_addPercentage_30 : decode cX12_addPercentage 30 = .ok (.iconst 0, 1) := by decide +kernel
theorem dX12_addPercentage_31 : decode cX12_addPercentage 31 = .ok (.iload_n 3, 1) := by decide +kernel
theorem dX12_addPercentage_32 : decode cX12_addPercentage 32 = .ok (.iload 4, 2) := by decide +kernel
theorem dX12_addPercentage_34 : decode cX12_addPercentage 34 = .ok (.invokevirtual 124, 3) := by decide +kernel
theorem dX12_addPercentage_37 : decode cX12_addPercentage 37 = .ok (.ireturn, 1) := by decide +kernel
set_option maxRecDepth 20000 in
theorem ggX12_addFreeItem_X12_in : GoodIn wsX12_addFreeItem wsX12_in := goodIn_r _ [4] (by decide +kernel) (by decide +kernel)
set_option maxRecDepth 20000 in
theorem gX12_addFreeItem_X12_in : GoodIn wsX12_addFreeItem (va_wsS RX12 99 yX12_in wsX12_in) := goodIn_app (goodIn_of _ (by decide +kernel)) ggX12_addFreeItem_X12_in
set_option maxRecDepth 20000 in
theorem ggX12_addFreeItem_X12_adds : GoodIn wsX12_addFreeItem wsX12_adds := goodIn_ca (goodIn_r _ [8, 9, 10, 11, 12, 13, 14, 15, 16, 17, 1, 2, 3, 4, 18, 19, 20, 21, 22, 23, 24, 25, 26, 27, 28, 29, 30, 31, 32, 33, 34, 35, 36, 37, 38, 39, 40, 41, 42, 43, 44, 45, 46, 47, 48, 49, 50, 51, 52, 53, 54] (by decide +kernel) (by decide +kernel)) (goodIn_sub (fun _ h => List.mem_cons_of_mem _ (List.mem_append_right _ h)) (by decide +kernel))
set_option maxRecDepth 20000 in
theorem gX12_addFreeItem_X12_adds : GoodIn wsX12_addFreeItem (wsV RX12 124 RX12 yX12_adds wsX12_adds) := goodIn_app (goodIn_of _ (by decide +kernel)) ggX12_addFreeItem_X12_adds
theorem dX12_addFreeItem_0 : decode cX12_addFreeItem 0 = .ok (.aload_n 0, 1) := by decide +kernel
theorem dX12_addFreeItem_1 : decode cX12_addFreeItem 1 = .ok (.bipush 102, 2) := by decide +kernel
theorem dX12_addFreeItem_3 : decode cX12_addFreeItem 3 = .ok (.iload_n 1, 1) := by decide +kernel
theorem dX12_addFreeItem_4 : decode cX12_addFreeItem 4 = .ok (.iload_n 2, 1) := by decide +kernel
theorem dX12_addFreeItem_5 : decode cX12_addFreeItem 5 = .ok (.iconst (-1), 1) := by decide +kernel
theorem dX12_addFreeItem_6 : decode cX12_addFreeItem 6 = .ok (.iload_n 1, 1) := by decide +kernel
theorem dX12_addFreeItem_7 : decode cX12_addFreeItem 7 = .ok (.iconst 0, 1) := by decide +kernel
theorem dX12_addFreeItem_8 : decode cX12_addFreeItem 8 = .ok (.bipush 9, 2) := by decide +kernel
theorem dX12_addFreeItem_10 : decode cX12_addFreeItem 10 = .ok (.invokestatic 99, 3) := by decide +kernel
theorem dX12_addFreeItem_13 : decode cX12_addFreeItem 13 = .ok (.ifCond .eq 16, 3) := by decide +kernel
theorem dX12_addFreeItem_16 : decode cX12_addFreeItem 16 = .ok (.iload_n 2, 1) := by decide +kernel
theorem dX12_addFreeItem_17 : decode cX12_addFreeItem 17 = .ok (.iconst 2, 1) := by decide +kernel
theorem dX12_addFreeItem_18 : decode cX12_addFreeItem 18 = .ok (.iconst 5, 1) := by decide +kernel
theorem dX12_addFreeItem_19 : decode cX12_addFreeItem 19 = .ok (.invokestatic 99, 3) := by decide +kernel
theorem dX12_addFreeItem_22 : decode cX12_addFreeItem 22 = .ok (.ifCond .eq 7, 3) := by decide +kernel
theorem dX12_addFreeItem_25 : decode cX12_addFreeItem 25 = .ok (.iconst 1, 1) := by decide +kernel
theorem dX12_addFreeItem_26 : decode cX12_addFreeItem 26 = .ok (.goto 4, 3) := by decide +kernel
theorem dX12_addFreeItem_29 : decode cX12_addFreeItem 29 = .ok (.iconst 0, 1) := by decide +kernel
theorem dX12_addFreeItem_30 : decode cX12_addFreeItem 30 = .ok (.iload_n 3, 1) := by decide +kernel
theorem dX12_addFreeItem_31 : decode cX12_addFreeItem 31 = .ok (.iload 4, 2) := by decide +kernel
theorem dX12_addFreeItem_33 : decode cX12_addFreeItem 33 = .ok (.invokevirtual 124, 3) := by decide +kernel
theorem dX12_addFreeItem_36 : decode cX12_addFreeItem 36 = .ok (.ireturn, 1) := by decide +kernel
set_option maxRecDepth 20000 in
theorem ggX12_addBundle_X12_in : GoodIn wsX12_addBundle wsX12_in := goodIn_r _ [6] (by decide +kernel) (by decide +kernel)
set_option maxRecDepth 20000 in
theorem gX12_addBundle_X12_in : GoodIn wsX12_addBundle (va_wsS RX12 99 yX12_in wsX12_in) := goodIn_app (goodIn_of _ (by decide +kernel)) ggX12_addBundle_X12_in
set_option maxRecDepth 20000 in
theorem ggX12_addBundle_X12_adds : GoodIn wsX12_addBundle wsX12_adds := goodIn_ca (goodIn_r _ [10, 11, 1, 12, 13, 14, 15, 16, 17, 18, 3, 4, 5, 6, 19, 20, 21, 22, 23, 24, 25, 26, 27, 28, 29, 30, 31, 32, 33, 34, 35, 36, 37, 38, 39, 40, 41, 42, 43, 44, 45, 46, 47, 48, 49, 50, 51, 52, 53, 54, 55] (by decide +kernel) (by decide +kernel)) (goodIn_sub (fun _ h => List.mem_cons_of_mem _ (List.mem_append_right _ h)) (by decide +kernel))
set_option maxRecDepth 20000 in
theorem gX12_addBundle_X12_adds : GoodIn wsX12_addBundle (wsV RX12 124 RX12 yX12_adds wsX12_adds) := goodIn_app (goodIn_of _ (by decide +kernel)) ggX12_addBundle_X12_adds
theorem dX12_addBundle_0 : decode cX12_addBundle 0 = .ok (.iload_n 1, 1) := by decide +kernel
theorem dX12_addBundle_1 : decode cX12_addBundle 1 = .ok (.iconst 0, 1) := by decide +kernel
theorem dX12_addBundle_2 : decode cX12_addBundle 2 = .ok (.bipush 9, 2) := by decide +kernel
theorem dX12_addBundle_4 : decode cX12_addBundle 4 = .ok (.invokestatic 99, 3) := by decide +kernel
theorem dX12_addBundle_7 : decode cX12_addBundle 7 = .ok (.ifCond .eq 39, 3) := by decide +kernel
theorem dX12_addBundle_10 : decode cX12_addBundle 10 = .ok (.iload_n 2, 1) := by decide +kernel
theorem dX12_addBundle_11 : decode cX12_addBundle 11 = .ok (.iconst 0, 1) := by decide +kernel
theorem dX12_addBundle_12 : decode cX12_addBundle 12 = .ok (.bipush 9, 2) := by decide +kernel
theorem dX12_addBundle_14 : decode cX12_addBundle 14 = .ok (.invokestatic 99, 3) := by decide +kernel
theorem dX12_addBundle_17 : decode cX12_addBundle 17 = .ok (.ifCond .eq 29, 3) := by decide +kernel
theorem dX12_addBundle_20 : decode cX12_addBundle 20 = .ok (.iload_n 3, 1) := by decide +kernel
theorem dX12_addBundle_21 : decode cX12_addBundle 21 = .ok (.iconst (-1), 1) := by decide +kernel
theorem dX12_addBundle_22 : decode cX12_addBundle 22 = .ok (.bipush 9, 2) := by decide +kernel
theorem dX12_addBundle_24 : decode cX12_addBundle 24 = .ok (.invokestatic 99, 3) := by decide +kernel
theorem dX12_addBundle_27 : decode cX12_addBundle 27 = .ok (.ifCond .eq 19, 3) := by decide +kernel
theorem dX12_addBundle_30 : decode cX12_addBundle 30 = .ok (.iload 4, 2) := by decide +kernel
theorem dX12_addBundle_32 : decode cX12_addBundle 32 = .ok (.iconst 1, 1) := by decide +kernel
theorem dX12_addBundle_33 : decode cX12_addBundle 33 = .ok (.sipush 9999, 3) := by decide +kernel
theorem dX12_addBundle_36 : decode cX12_addBundle 36 = .ok (.invokestatic 99, 3) := by decide +kernel
theorem dX12_addBundle_39 : decode cX12_addBundle 39 = .ok (.ifCond .eq 7, 3) := by decide +kernel
theorem dX12_addBundle_42 : decode cX12_addBundle 42 = .ok (.iconst 1, 1) := by decide +kernel
theorem dX12_addBundle_43 : decode cX12_addBundle 43 = .ok (.goto 4, 3) := by decide +kernel
theorem dX12_addBundle_46 : decode cX12_addBundle 46 = .ok (.iconst 0, 1) := by decide +kernel
theorem dX12_addBundle_47 : decode cX12_addBundle 47 = .ok (.istore 7, 2) := by decide +kernel
theorem dX12_addBundle_49 : decode cX12_addBundle 49 = .ok (.aload_n 0, 1) := by decide +kernel
theorem dX12_addBundle_50 : decode cX12_addBundle 50 = .ok (.bipush 98, 2) := by decide +kernel
theorem dX12_addBundle_52 : decode cX12_addBundle 52 = .ok (.iload_n 1, 1) := by decide +kernel
theorem dX12_addBundle_53 : decode cX12_addBundle 53 = .ok (.iload_n 2, 1) := by decide +kernel
theorem dX12_addBundle_54 : decode cX12_addBundle 54 = .ok (.iload_n 3, 1) := by decide +kernel
theorem dX12_addBundle_55 : decode cX12_addBundle 55 = .ok (.iload 7, 2) := by decide +kernel
theorem dX12_addBundle_57 : decode cX12_addBundle 57 = .ok (.iload 5, 2) := by decide +kernel
theorem dX12_addBundle_59 : decode cX12_addBundle 59 = .ok (.iload 6, 2) := by decide +kernel
theorem dX12_addBundle_61 : decode cX12_addBundle 61 = .ok (.invokevirtual 124, 3) := by decide +kernel
theorem dX12_addBundle_64 : decode cX12_addBundle 64 = .ok (.istore 8, 2) := by decide +kernel
theorem dX12_addBundle_66 : decode cX12_addBundle 66 = .ok (.aload_n 0, 1) := by decide +kernel
theorem dX12_addBundle_67 : decode cX12_addBundle 67 = .ok (.getfield 89, 3) := by decide +kernel
theorem dX12_addBundle_70 : decode cX12_addBundle 70 = .ok (.ifCond .ne 12, 3) := by decide +kernel
theorem dX12_addBundle_73 : decode cX12_addBundle 73 = .ok (.aload_n 0, 1) := by decide +kernel
theorem dX12_addBundle_74 : decode cX12_addBundle 74 = .ok (.getfield 38, 3) := by decide +kernel
theorem dX12_addBundle_77 : decode cX12_addBundle 77 = .ok (.iload 8, 2) := by decide +kernel
theorem dX12_addBundle_79 : decode cX12_addBundle 79 = .ok (.iload 4, 2) := by decide +kernel
theorem dX12_addBundle_81 : decode cX12_addBundle 81 = .ok (.iastore, 1) := by decide +kernel
theorem dX12_addBundle_82 : decode cX12_addBundle 82 = .ok (.iload 8, 2) := by decide +kernel
theorem dX12_addBundle_84 : decode cX12_addBundle 84 = .ok (.ireturn, 1) := by decide +kernel
set_option maxRecDepth 20000 in
theorem ggX12_addThreshold_X12_in : GoodIn wsX12_addThreshold wsX12_in := goodIn_r _ [4] (by decide +kernel) (by decide +kernel)
set_option maxRecDepth 20000 in
theorem gX12_addThreshold_X12_in : GoodIn wsX12_addThreshold (va_wsS RX12 99 yX12_in wsX12_in) := goodIn_app (goodIn_of _ (by decide +kernel)) ggX12_addThreshold_X12_in
set_option maxRecDepth 20000 in
theorem ggX12_addThreshold_X12_adds : GoodIn wsX12_addThreshold wsX12_adds := goodIn_ca (goodIn_r _ [8, 9, 10, 11, 12, 13, 14, 15, 16, 17, 1, 2, 3, 4, 18, 19, 20, 21, 22, 23, 24, 25, 26, 27, 28, 29, 30, 31, 32, 33, 34, 35, 36, 37, 38, 39, 40, 41, 42, 43, 44, 45, 46, 47, 48, 49, 50, 51, 52, 53, 54] (by decide +kernel) (by decide +kernel)) (goodIn_sub (fun _ h => List.mem_cons_of_mem _ (List.mem_append_right _ h)) (by decide +kernel))
set_option maxRecDepth 20000 in
theorem gX12_addThreshold_X12_adds : GoodIn wsX12_addThreshold (wsV RX12 124 RX12 yX12_adds wsX12_adds) := goodIn_app (goodIn_of _ (by decide +kernel)) ggX12_addThreshold_X12_adds
theorem dX12_addThreshold_0 : decode cX12_addThreshold 0 = .ok (.aload_n 0, 1) := by decide +kernel
theorem dX12_addThreshold_1 : decode cX12_addThreshold 1 = .ok (.bipush 116, 2) := by decide +kernel
theorem dX12_addThreshold_3 : decode cX12_addThreshold 3 = .ok (.iload_n 1, 1) := by decide +kernel
theorem dX12_addThreshold_4 : decode cX12_addThreshold 4 = .ok (.iload_n 2, 1) := by decide +kernel
theorem dX12_addThreshold_5 : decode cX12_addThreshold 5 = .ok (.iconst (-1), 1) := by decide +kernel
theorem dX12_addThreshold_6 : decode cX12_addThreshold 6 = .ok (.iload_n 1, 1) := by decide +kernel
theorem dX12_addThreshold_7 : decode cX12_addThreshold 7 = .ok (.iconst 1, 1) := by decide +kernel
theorem dX12_addThreshold_8 : decode cX12_addThreshold 8 = .ok (.sipush 9999, 3) := by decide +kernel
theorem dX12_addThreshold_11 : decode cX12_addThreshold 11 = .ok (.invokestatic 99, 3) := by decide +kernel
theorem dX12_addThreshold_14 : decode cX12_addThreshold 14 = .ok (.ifCond .eq 18, 3) := by decide +kernel
theorem dX12_addThreshold_17 : decode cX12_addThreshold 17 = .ok (.iload_n 2, 1) := by decide +kernel
theorem dX12_addThreshold_18 : decode cX12_addThreshold 18 = .ok (.iconst 1, 1) := by decide +kernel
theorem dX12_addThreshold_19 : decode cX12_addThreshold 19 = .ok (.sipush 9999, 3) := by decide +kernel
theorem dX12_addThreshold_22 : decode cX12_addThreshold 22 = .ok (.invokestatic 99, 3) := by decide +kernel
theorem dX12_addThreshold_25 : decode cX12_addThreshold 25 = .ok (.ifCond .eq 7, 3) := by decide +kernel
theorem dX12_addThreshold_28 : decode cX12_addThreshold 28 = .ok (.iconst 1, 1) := by decide +kernel
theorem dX12_addThreshold_29 : decode cX12_addThreshold 29 = .ok (.goto 4, 3) := by decide +kernel
theorem dX12_addThreshold_32 : decode cX12_addThreshold 32 = .ok (.iconst 0, 1) := by decide +kernel
theorem dX12_addThreshold_33 : decode cX12_addThreshold 33 = .ok (.iload_n 3, 1) := by decide +kernel
theorem dX12_addThreshold_34 : decode cX12_addThreshold 34 = .ok (.iload 4, 2) := by decide +kernel
theorem dX12_addThreshold_36 : decode cX12_addThreshold 36 = .ok (.invokevirtual 124, 3) := by decide +kernel
theorem dX12_addThreshold_39 : decode cX12_addThreshold 39 = .ok (.ireturn, 1) := by decide +kernel
theorem dX12_leftOf_0 : decode cX12_leftOf 0 = .ok (.aload_n 0, 1) := by decide +kernel
theorem dX12_leftOf_1 : decode cX12_leftOf 1 = .ok (.getfield 41, 3) := by decide +kernel
theorem dX12_leftOf_4 : decode cX12_leftOf 4 = .ok (.iload_n 1, 1) := by decide +kernel
theorem dX12_leftOf_5 : decode cX12_leftOf 5 = .ok (.iaload, 1) := by decide +kernel
theorem dX12_leftOf_6 : decode cX12_leftOf 6 = .ok (.aload_n 0, 1) := by decide +kernel
theorem dX12_leftOf_7 : decode cX12_leftOf 7 = .ok (.getfield 49, 3) := by decide +kernel
theorem dX12_leftOf_10 : decode cX12_leftOf 10 = .ok (.aload_n 0, 1) := by decide +kernel
theorem dX12_leftOf_11 : decode cX12_leftOf 11 = .ok (.getfield 114, 3) := by decide +kernel
theorem dX12_leftOf_14 : decode cX12_leftOf 14 = .ok (.aaload, 1) := by decide +kernel
theorem dX12_leftOf_15 : decode cX12_leftOf 15 = .ok (.iload_n 1, 1) := by decide +kernel
theorem dX12_leftOf_16 : decode cX12_leftOf 16 = .ok (.iaload, 1) := by decide +kernel
theorem dX12_leftOf_17 : decode cX12_leftOf 17 = .ok (.isub, 1) := by decide +kernel
theorem dX12_leftOf_18 : decode cX12_leftOf 18 = .ok (.ireturn, 1) := by decide +kernel
set_option maxRecDepth 20000 in
theorem ggX12_left_X12_in : GoodIn wsX12_left wsX12_in := goodIn_r _ [6] (by decide +kernel) (by decide +kernel)
set_option maxRecDepth 20000 in
theorem gX12_left_X12_in : GoodIn wsX12_left (va_wsS RX12 99 yX12_in wsX12_in) := goodIn_app (goodIn_of _ (by decide +kernel)) ggX12_left_X12_in
set_option maxRecDepth 20000 in
theorem ggX12_left_X12_leftOf : GoodIn wsX12_left wsX12_leftOf := goodIn_ca (goodIn_r _ [10, 11, 12, 13, 14, 15, 16, 17, 18, 19, 20, 21, 22, 23, 24, 25, 26, 27, 28, 29, 30, 31, 32, 33, 34, 35, 36, 37, 38, 39, 40, 41, 42, 43, 44, 45, 46, 47, 48, 49, 50] (by decide +kernel) (by decide +kernel)) (goodIn_sub (fun _ h => List.mem_cons_of_mem _ (List.mem_append_right _ h)) (by decide +kernel))
set_option maxRecDepth 20000 in
theorem gX12_left_X12_leftOf : GoodIn wsX12_left (wsV RX12 128 RX12 yX12_leftOf wsX12_leftOf) := goodIn_app (goodIn_of _ (by decide +kernel)) ggX12_left_X12_leftOf
theorem dX12_left_0 : decode cX12_left 0 = .ok (.aload_n 0, 1) := by decide +kernel
theorem dX12_left_1 : decode cX12_left 1 = .ok (.iload_n 1, 1) := by decide +kernel
theorem dX12_left_2 : decode cX12_left 2 = .ok (.iconst 0, 1) := by decide +kernel
theorem dX12_left_3 : decode cX12_left 3 = .ok (.aload_n 0, 1) := by decide +kernel
theorem dX12_left_4 : decode cX12_left 4 = .ok (.getfield 121, 3) := by decide +kernel
theorem dX12_left_7 : decode cX12_left 7 = .ok (.iconst 1, 1) := by decide +kernel
theorem dX12_left_8 : decode cX12_left 8 = .ok (.isub, 1) := by decide +kernel
theorem dX12_left_9 : decode cX12_left 9 = .ok (.invokestatic 99, 3) := by decide +kernel
theorem dX12_left_12 : decode cX12_left 12 = .ok (.ifCond .eq 7, 3) := by decide +kernel
theorem dX12_left_15 : decode cX12_left 15 = .ok (.iconst 0, 1) := by decide +kernel
theorem dX12_left_16 : decode cX12_left 16 = .ok (.goto 4, 3) := by decide +kernel
theorem dX12_left_19 : decode cX12_left 19 = .ok (.iconst 1, 1) := by decide +kernel
theorem dX12_left_20 : decode cX12_left 20 = .ok (.putfield 89, 3) := by decide +kernel
theorem dX12_left_23 : decode cX12_left 23 = .ok (.aload_n 0, 1) := by decide +kernel
theorem dX12_left_24 : decode cX12_left 24 = .ok (.getfield 89, 3) := by decide +kernel
theorem dX12_left_27 : decode cX12_left 27 = .ok (.ifCond .le 7, 3) := by decide +kernel
theorem dX12_left_30 : decode cX12_left 30 = .ok (.iconst 0, 1) := by decide +kernel
theorem dX12_left_31 : decode cX12_left 31 = .ok (.goto 8, 3) := by decide +kernel
theorem dX12_left_34 : decode cX12_left 34 = .ok (.aload_n 0, 1) := by decide +kernel
theorem dX12_left_35 : decode cX12_left 35 = .ok (.iload_n 1, 1) := by decide +kernel
theorem dX12_left_36 : decode cX12_left 36 = .ok (.invokevirtual 128, 3) := by decide +kernel
theorem dX12_left_39 : decode cX12_left 39 = .ok (.ireturn, 1) := by decide +kernel
theorem dX12_offers_0 : decode cX12_offers 0 = .ok (.aload_n 0, 1) := by decide +kernel
theorem dX12_offers_1 : decode cX12_offers 1 = .ok (.iconst 0, 1) := by decide +kernel
theorem dX12_offers_2 : decode cX12_offers 2 = .ok (.putfield 89, 3) := by decide +kernel
theorem dX12_offers_5 : decode cX12_offers 5 = .ok (.aload_n 0, 1) := by decide +kernel
theorem dX12_offers_6 : decode cX12_offers 6 = .ok (.getfield 121, 3) := by decide +kernel
theorem dX12_offers_9 : decode cX12_offers 9 = .ok (.ireturn, 1) := by decide +kernel
theorem dX12_price_0 : decode cX12_price 0 = .ok (.aload_n 0, 1) := by decide +kernel
theorem dX12_price_1 : decode cX12_price 1 = .ok (.getfield 13, 3) := by decide +kernel
theorem dX12_price_4 : decode cX12_price 4 = .ok (.aload_n 0, 1) := by decide +kernel
theorem dX12_price_5 : decode cX12_price 5 = .ok (.getfield 52, 3) := by decide +kernel
theorem dX12_price_8 : decode cX12_price 8 = .ok (.iload_n 1, 1) := by decide +kernel
theorem dX12_price_9 : decode cX12_price 9 = .ok (.iaload, 1) := by decide +kernel
theorem dX12_price_10 : decode cX12_price 10 = .ok (.iaload, 1) := by decide +kernel
theorem dX12_price_11 : decode cX12_price 11 = .ok (.ireturn, 1) := by decide +kernel
theorem dX12_kind_0 : decode cX12_kind 0 = .ok (.aload_n 0, 1) := by decide +kernel
theorem dX12_kind_1 : decode cX12_kind 1 = .ok (.getfield 9, 3) := by decide +kernel
theorem dX12_kind_4 : decode cX12_kind 4 = .ok (.aload_n 0, 1) := by decide +kernel
theorem dX12_kind_5 : decode cX12_kind 5 = .ok (.getfield 52, 3) := by decide +kernel
theorem dX12_kind_8 : decode cX12_kind 8 = .ok (.iload_n 1, 1) := by decide +kernel
theorem dX12_kind_9 : decode cX12_kind 9 = .ok (.iaload, 1) := by decide +kernel
theorem dX12_kind_10 : decode cX12_kind 10 = .ok (.iaload, 1) := by decide +kernel
theorem dX12_kind_11 : decode cX12_kind 11 = .ok (.ireturn, 1) := by decide +kernel
theorem dX12_sizeOf_0 : decode cX12_sizeOf 0 = .ok (.aload_n 0, 1) := by decide +kernel
theorem dX12_sizeOf_1 : decode cX12_sizeOf 1 = .ok (.getfield 26, 3) := by decide +kernel
theorem dX12_sizeOf_4 : decode cX12_sizeOf 4 = .ok (.iload_n 1, 1) := by decide +kernel
theorem dX12_sizeOf_5 : decode cX12_sizeOf 5 = .ok (.caload, 1) := by decide +kernel
theorem dX12_sizeOf_6 : decode cX12_sizeOf 6 = .ok (.bipush 112, 2) := by decide +kernel
theorem dX12_sizeOf_8 : decode cX12_sizeOf 8 = .ok (.if_icmp .ne 7, 3) := by decide +kernel
theorem dX12_sizeOf_11 : decode cX12_sizeOf 11 = .ok (.iconst 1, 1) := by decide +kernel
theorem dX12_sizeOf_12 : decode cX12_sizeOf 12 = .ok (.goto 53, 3) := by decide +kernel
theorem dX12_sizeOf_15 : decode cX12_sizeOf 15 = .ok (.aload_n 0, 1) := by decide +kernel
theorem dX12_sizeOf_16 : decode cX12_sizeOf 16 = .ok (.getfield 26, 3) := by decide +kernel
theorem dX12_sizeOf_19 : decode cX12_sizeOf 19 = .ok (.iload_n 1, 1) := by decide +kernel
theorem dX12_sizeOf_20 : decode cX12_sizeOf 20 = .ok (.caload, 1) := by decide +kernel
theorem dX12_sizeOf_21 : decode cX12_sizeOf 21 = .ok (.bipush 102, 2) := by decide +kernel
theorem dX12_sizeOf_23 : decode cX12_sizeOf 23 = .ok (.if_icmp .ne 12, 3) := by decide +kernel
theorem dX12_sizeOf_26 : decode cX12_sizeOf 26 = .ok (.aload_n 0, 1) := by decide +kernel
theorem dX12_sizeOf_27 : decode cX12_sizeOf 27 = .ok (.getfield 32, 3) := by decide +kernel
theorem dX12_sizeOf_30 : decode cX12_sizeOf 30 = .ok (.iload_n 1, 1) := by decide +kernel
theorem dX12_sizeOf_31 : decode cX12_sizeOf 31 = .ok (.iaload, 1) := by decide +kernel
theorem dX12_sizeOf_32 : decode cX12_sizeOf 32 = .ok (.goto 33, 3) := by decide +kernel
theorem dX12_sizeOf_35 : decode cX12_sizeOf 35 = .ok (.aload_n 0, 1) := by decide +kernel
theorem dX12_sizeOf_36 : decode cX12_sizeOf 36 = .ok (.getfield 26, 3) := by decide +kernel
theorem dX12_sizeOf_39 : decode cX12_sizeOf 39 = .ok (.iload_n 1, 1) := by decide +kernel
theorem dX12_sizeOf_40 : decode cX12_sizeOf 40 = .ok (.caload, 1) := by decide +kernel
theorem dX12_sizeOf_41 : decode cX12_sizeOf 41 = .ok (.bipush 116, 2) := by decide +kernel
theorem dX12_sizeOf_43 : decode cX12_sizeOf 43 = .ok (.if_icmp .ne 7, 3) := by decide +kernel
theorem dX12_sizeOf_46 : decode cX12_sizeOf 46 = .ok (.iconst 0, 1) := by decide +kernel
theorem dX12_sizeOf_47 : decode cX12_sizeOf 47 = .ok (.goto 18, 3) := by decide +kernel
theorem dX12_sizeOf_50 : decode cX12_sizeOf 50 = .ok (.aload_n 0, 1) := by decide +kernel
theorem dX12_sizeOf_51 : decode cX12_sizeOf 51 = .ok (.getfield 35, 3) := by decide +kernel
theorem dX12_sizeOf_54 : decode cX12_sizeOf 54 = .ok (.iload_n 1, 1) := by decide +kernel
theorem dX12_sizeOf_55 : decode cX12_sizeOf 55 = .ok (.iaload, 1) := by decide +kernel
theorem dX12_sizeOf_56 : decode cX12_sizeOf 56 = .ok (.iconst (-1), 1) := by decide +kernel
theorem dX12_sizeOf_57 : decode cX12_sizeOf 57 = .ok (.if_icmp .ne 7, 3) := by decide +kernel
theorem dX12_sizeOf_60 : decode cX12_sizeOf 60 = .ok (.iconst 2, 1) := by decide +kernel
theorem dX12_sizeOf_61 : decode cX12_sizeOf 61 = .ok (.goto 4, 3) := by decide +kernel
theorem dX12_sizeOf_64 : decode cX12_sizeOf 64 = .ok (.iconst 3, 1) := by decide +kernel
theorem dX12_sizeOf_65 : decode cX12_sizeOf 65 = .ok (.ireturn, 1) := by decide +kernel
set_option maxRecDepth 20000 in
theorem ggX12_wants_X12_sizeOf : GoodIn wsX12_wants wsX12_sizeOf := goodIn_ca (goodIn_r _ [9, 1, 3, 4, 10, 11, 12, 13, 14, 15, 16, 17, 18, 19, 20, 21, 22, 23, 24, 25, 26, 27, 28, 29, 30, 31, 32, 33, 34, 35, 36, 37, 38, 39, 40, 41, 42, 43, 44, 45, 46] (by decide +kernel) (by decide +kernel)) (goodIn_sub (fun _ h => List.mem_cons_of_mem _ (List.mem_append_right _ h)) (by decide +kernel))
set_option maxRecDepth 20000 in
theorem gX12_wants_X12_sizeOf : GoodIn wsX12_wants (wsV RX12 132 RX12 yX12_sizeOf wsX12_sizeOf) := goodIn_app (goodIn_of _ (by decide +kernel)) ggX12_wants_X12_sizeOf
theorem dX12_wants_0 : decode cX12_wants 0 = .ok (.aload_n 0, 1) := by decide +kernel
theorem dX12_wants_1 : decode cX12_wants 1 = .ok (.getfield 26, 3) := by decide +kernel
theorem dX12_wants_4 : decode cX12_wants 4 = .ok (.iload_n 1, 1) := by decide +kernel
theorem dX12_wants_5 : decode cX12_wants 5 = .ok (.caload, 1) := by decide +kernel
theorem dX12_wants_6 : decode cX12_wants 6 = .ok (.bipush 98, 2) := by decide +kernel
theorem dX12_wants_8 : decode cX12_wants 8 = .ok (.if_icmp .ne 51, 3) := by decide +kernel
theorem dX12_wants_11 : decode cX12_wants 11 = .ok (.aload_n 0, 1) := by decide +kernel
theorem dX12_wants_12 : decode cX12_wants 12 = .ok (.getfield 29, 3) := by decide +kernel
theorem dX12_wants_15 : decode cX12_wants 15 = .ok (.iload_n 1, 1) := by decide +kernel
theorem dX12_wants_16 : decode cX12_wants 16 = .ok (.iaload, 1) := by decide +kernel
theorem dX12_wants_17 : decode cX12_wants 17 = .ok (.iload_n 2, 1) := by decide +kernel
theorem dX12_wants_18 : decode cX12_wants 18 = .ok (.if_icmp .ne 7, 3) := by decide +kernel
theorem dX12_wants_21 : decode cX12_wants 21 = .ok (.iconst 1, 1) := by decide +kernel
theorem dX12_wants_22 : decode cX12_wants 22 = .ok (.goto 4, 3) := by decide +kernel
theorem dX12_wants_25 : decode cX12_wants 25 = .ok (.iconst 0, 1) := by decide +kernel
theorem dX12_wants_26 : decode cX12_wants 26 = .ok (.aload_n 0, 1) := by decide +kernel
theorem dX12_wants_27 : decode cX12_wants 27 = .ok (.getfield 32, 3) := by decide +kernel
theorem dX12_wants_30 : decode cX12_wants 30 = .ok (.iload_n 1, 1) := by decide +kernel
theorem dX12_wants_31 : decode cX12_wants 31 = .ok (.iaload, 1) := by decide +kernel
theorem dX12_wants_32 : decode cX12_wants 32 = .ok (.iload_n 2, 1) := by decide +kernel
theorem dX12_wants_33 : decode cX12_wants 33 = .ok (.if_icmp .ne 7, 3) := by decide +kernel
theorem dX12_wants_36 : decode cX12_wants 36 = .ok (.iconst 1, 1) := by decide +kernel
theorem dX12_wants_37 : decode cX12_wants 37 = .ok (.goto 4, 3) := by decide +kernel
theorem dX12_wants_40 : decode cX12_wants 40 = .ok (.iconst 0, 1) := by decide +kernel
theorem dX12_wants_41 : decode cX12_wants 41 = .ok (.iadd, 1) := by decide +kernel
theorem dX12_wants_42 : decode cX12_wants 42 = .ok (.aload_n 0, 1) := by decide +kernel
theorem dX12_wants_43 : decode cX12_wants 43 = .ok (.getfield 35, 3) := by decide +kernel
theorem dX12_wants_46 : decode cX12_wants 46 = .ok (.iload_n 1, 1) := by decide +kernel
theorem dX12_wants_47 : decode cX12_wants 47 = .ok (.iaload, 1) := by decide +kernel
theorem dX12_wants_48 : decode cX12_wants 48 = .ok (.iload_n 2, 1) := by decide +kernel
theorem dX12_wants_49 : decode cX12_wants 49 = .ok (.if_icmp .ne 7, 3) := by decide +kernel
theorem dX12_wants_52 : decode cX12_wants 52 = .ok (.iconst 1, 1) := by decide +kernel
theorem dX12_wants_53 : decode cX12_wants 53 = .ok (.goto 4, 3) := by decide +kernel
theorem dX12_wants_56 : decode cX12_wants 56 = .ok (.iconst 0, 1) := by decide +kernel
theorem dX12_wants_57 : decode cX12_wants 57 = .ok (.iadd, 1) := by decide +kernel
theorem dX12_wants_58 : decode cX12_wants 58 = .ok (.ireturn, 1) := by decide +kernel
theorem dX12_wants_59 : decode cX12_wants 59 = .ok (.aload_n 0, 1) := by decide +kernel
theorem dX12_wants_60 : decode cX12_wants 60 = .ok (.getfield 26, 3) := by decide +kernel
theorem dX12_wants_63 : decode cX12_wants 63 = .ok (.iload_n 1, 1) := by decide +kernel
theorem dX12_wants_64 : decode cX12_wants 64 = .ok (.caload, 1) := by decide +kernel
theorem dX12_wants_65 : decode cX12_wants 65 = .ok (.bipush 116, 2) := by decide +kernel
theorem dX12_wants_67 : decode cX12_wants 67 = .ok (.if_icmp .eq 13, 3) := by decide +kernel
theorem dX12_wants_70 : decode cX12_wants 70 = .ok (.aload_n 0, 1) := by decide +kernel
theorem dX12_wants_71 : decode cX12_wants 71 = .ok (.getfield 29, 3) := by decide +kernel
theorem dX12_wants_74 : decode cX12_wants 74 = .ok (.iload_n 1, 1) := by decide +kernel
theorem dX12_wants_75 : decode cX12_wants 75 = .ok (.iaload, 1) := by decide +kernel
theorem dX12_wants_76 : decode cX12_wants 76 = .ok (.iload_n 2, 1) := by decide +kernel
theorem dX12_wants_77 : decode cX12_wants 77 = .ok (.if_icmp .eq 7, 3) := by decide +kernel
theorem dX12_wants_80 : decode cX12_wants 80 = .ok (.iconst 0, 1) := by decide +kernel
theorem dX12_wants_81 : decode cX12_wants 81 = .ok (.goto 8, 3) := by decide +kernel
theorem dX12_wants_84 : decode cX12_wants 84 = .ok (.aload_n 0, 1) := by decide +kernel
theorem dX12_wants_85 : decode cX12_wants 85 = .ok (.iload_n 1, 1) := by decide +kernel
theorem dX12_wants_86 : decode cX12_wants 86 = .ok (.invokevirtual 132, 3) := by decide +kernel
theorem dX12_wants_89 : decode cX12_wants 89 = .ok (.ireturn, 1) := by decide +kernel
set_option maxRecDepth 20000 in
theorem ggX12_fits_J6_bitCount_0f7a4 : GoodIn wsX12_fits wsJ6_bitCount_0f7a4 := goodIn_r _ [5, 6, 7, 8] (by decide +kernel) (by decide +kernel)
set_option maxRecDepth 20000 in
theorem gX12_fits_J6_bitCount_0f7a4 : GoodIn wsX12_fits (va_wsS RX12 135 yJ6_bitCount_0f7a4 wsJ6_bitCount_0f7a4) := goodIn_app (goodIn_of _ (by decide +kernel)) ggX12_fits_J6_bitCount_0f7a4
set_option maxRecDepth 20000 in
theorem ggX12_fits_X12_sizeOf : GoodIn wsX12_fits wsX12_sizeOf := goodIn_ca (goodIn_r _ [13, 14, 15, 16, 28, 29, 30, 31, 32, 33, 34, 35, 36, 37, 38, 39, 40, 41, 42, 43, 44, 45, 46, 47, 48, 49, 50, 51, 52, 53, 54, 55, 56, 57, 58, 59, 60, 61, 62, 63, 64] (by decide +kernel) (by decide +kernel)) (goodIn_sub (fun _ h => List.mem_cons_of_mem _ (List.mem_append_right _ h)) (by decide +kernel))
set_option maxRecDepth 20000 in
theorem gX12_fits_X12_sizeOf : GoodIn wsX12_fits (wsV RX12 132 RX12 yX12_sizeOf wsX12_sizeOf) := goodIn_app (goodIn_of _ (by decide +kernel)) ggX12_fits_X12_sizeOf
set_option maxRecDepth 20000 in
theorem ggX12_fits_X12_kind : GoodIn wsX12_fits wsX12_kind := goodIn_ca (goodIn_r _ [20, 21, 22, 28, 29, 30, 31, 32, 33, 34, 35, 36, 37, 38, 39, 40, 41, 42, 43, 44, 45, 46, 47, 48, 49, 50, 51, 52, 53, 54, 55, 56, 57, 58, 59, 60, 61, 62, 63, 64] (by decide +kernel) (by decide +kernel)) (goodIn_sub (fun _ h => List.mem_cons_of_mem _ (List.mem_append_right _ h)) (by decide +kernel))
set_option maxRecDepth 20000 in
theorem gX12_fits_X12_kind : GoodIn wsX12_fits (wsV RX12 140 RX12 yX12_kind wsX12_kind) := goodIn_app (goodIn_of _ (by decide +kernel)) ggX12_fits_X12_kind
set_option maxRecDepth 20000 in
theorem ggX12_fits_X12_wants : GoodIn wsX12_fits wsX12_wants := goodIn_ca (goodIn_r _ [26, 14, 27, 15, 16, 9, 10, 11, 12, 13, 28, 29, 30, 31, 32, 33, 34, 35, 36, 37, 38, 39, 40, 41, 42, 43, 44, 45, 46, 47, 48, 49, 50, 51, 52, 53, 54, 55, 56, 57, 58, 59, 60, 61, 62, 63, 64] (by decide +kernel) (by decide +kernel)) (goodIn_sub (fun _ h => List.mem_cons_of_mem _ (List.mem_append_right _ h)) (by decide +kernel))
set_option maxRecDepth 20000 in
theorem gX12_fits_X12_wants : GoodIn wsX12_fits (wsV RX12 143 RX12 yX12_wants wsX12_wants) := goodIn_app (goodIn_of _ (by decide +kernel)) ggX12_fits_X12_wants
theorem dX12_fits_0 : decode cX12_fits 0 = .ok (.iload_n 2, 1) := by decide +kernel
theorem dX12_fits_1 : decode cX12_fits 1 = .ok (.invokestatic 135, 3) := by decide +kernel
theorem dX12_fits_4 : decode cX12_fits 4 = .ok (.aload_n 0, 1) := by decide +kernel
theorem dX12_fits_5 : decode cX12_fits 5 = .ok (.iload_n 1, 1) := by decide +kernel
theorem dX12_fits_6 : decode cX12_fits 6 = .ok (.invokevirtual 132, 3) := by decide +kernel
theorem dX12_fits_9 : decode cX12_fits 9 = .ok (.if_icmp .eq 5, 3) := by decide +kernel
theorem dX12_fits_12 : decode cX12_fits 12 = .ok (.iconst 0, 1) := by decide +kernel
theorem dX12_fits_13 : decode cX12_fits 13 = .ok (.ireturn, 1) := by decide +kernel
theorem dX12_fits_14 : decode cX12_fits 14 = .ok (.iconst 0, 1) := by decide +kernel
theorem dX12_fits_15 : decode cX12_fits 15 = .ok (.istore_n 3, 1) := by decide +kernel
theorem dX12_fits_16 : decode cX12_fits 16 = .ok (.iload_n 3, 1) := by decide +kernel
theorem dX12_fits_17 : decode cX12_fits 17 = .ok (.bipush 10, 2) := by decide +kernel
theorem dX12_fits_19 : decode cX12_fits 19 = .ok (.if_icmp .ge 73, 3) := by decide +kernel
theorem dX12_fits_22 : decode cX12_fits 22 = .ok (.iconst 0, 1) := by decide +kernel
theorem dX12_fits_23 : decode cX12_fits 23 = .ok (.istore 4, 2) := by decide +kernel
theorem dX12_fits_25 : decode cX12_fits 25 = .ok (.iconst 0, 1) := by decide +kernel
theorem dX12_fits_26 : decode cX12_fits 26 = .ok (.istore 5, 2) := by decide +kernel
theorem dX12_fits_28 : decode cX12_fits 28 = .ok (.iload 5, 2) := by decide +kernel
theorem dX12_fits_30 : decode cX12_fits 30 = .ok (.aload_n 0, 1) := by decide +kernel
theorem dX12_fits_31 : decode cX12_fits 31 = .ok (.getfield 93, 3) := by decide +kernel
theorem dX12_fits_34 : decode cX12_fits 34 = .ok (.if_icmp .ge 39, 3) := by decide +kernel
theorem dX12_fits_37 : decode cX12_fits 37 = .ok (.iload 4, 2) := by decide +kernel
theorem dX12_fits_39 : decode cX12_fits 39 = .ok (.iload_n 2, 1) := by decide +kernel
theorem dX12_fits_40 : decode cX12_fits 40 = .ok (.iload 5, 2) := by decide +kernel
theorem dX12_fits_42 : decode cX12_fits 42 = .ok (.ishr, 1) := by decide +kernel
theorem dX12_fits_43 : decode cX12_fits 43 = .ok (.iconst 1, 1) := by decide +kernel
theorem dX12_fits_44 : decode cX12_fits 44 = .ok (.iand, 1) := by decide +kernel
theorem dX12_fits_45 : decode cX12_fits 45 = .ok (.iconst 1, 1) := by decide +kernel
theorem dX12_fits_46 : decode cX12_fits 46 = .ok (.if_icmp .ne 17, 3) := by decide +kernel
theorem dX12_fits_49 : decode cX12_fits 49 = .ok (.aload_n 0, 1) := by decide +kernel
theorem dX12_fits_50 : decode cX12_fits 50 = .ok (.iload 5, 2) := by decide +kernel
theorem dX12_fits_52 : decode cX12_fits 52 = .ok (.invokevirtual 140, 3) := by decide +kernel
theorem dX12_fits_55 : decode cX12_fits 55 = .ok (.iload_n 3, 1) := by decide +kernel
theorem dX12_fits_56 : decode cX12_fits 56 = .ok (.if_icmp .ne 7, 3) := by decide +kernel
theorem dX12_fits_59 : decode cX12_fits 59 = .ok (.iconst 1, 1) := by decide +kernel
theorem dX12_fits_60 : decode cX12_fits 60 = .ok (.goto 4, 3) := by decide +kernel
theorem dX12_fits_63 : decode cX12_fits 63 = .ok (.iconst 0, 1) := by decide +kernel
theorem dX12_fits_64 : decode cX12_fits 64 = .ok (.iadd, 1) := by decide +kernel
theorem dX12_fits_65 : decode cX12_fits 65 = .ok (.istore 4, 2) := by decide +kernel
theorem dX12_fits_67 : decode cX12_fits 67 = .ok (.iinc 5 1, 3) := by decide +kernel
theorem dX12_fits_70 : decode cX12_fits 70 = .ok (.goto (-42), 3) := by decide +kernel
theorem dX12_fits_73 : decode cX12_fits 73 = .ok (.iload 4, 2) := by decide +kernel
theorem dX12_fits_75 : decode cX12_fits 75 = .ok (.aload_n 0, 1) := by decide +kernel
theorem dX12_fits_76 : decode cX12_fits 76 = .ok (.iload_n 1, 1) := by decide +kernel
theorem dX12_fits_77 : decode cX12_fits 77 = .ok (.iload_n 3, 1) := by decide +kernel
theorem dX12_fits_78 : decode cX12_fits 78 = .ok (.invokevirtual 143, 3) := by decide +kernel
theorem dX12_fits_81 : decode cX12_fits 81 = .ok (.if_icmp .eq 5, 3) := by decide +kernel
theorem dX12_fits_84 : decode cX12_fits 84 = .ok (.iconst 0, 1) := by decide +kernel
theorem dX12_fits_85 : decode cX12_fits 85 = .ok (.ireturn, 1) := by decide +kernel
theorem dX12_fits_86 : decode cX12_fits 86 = .ok (.iinc 3 1, 3) := by decide +kernel
theorem dX12_fits_89 : decode cX12_fits 89 = .ok (.goto (-73), 3) := by decide +kernel
theorem dX12_fits_92 : decode cX12_fits 92 = .ok (.iconst 1, 1) := by decide +kernel
theorem dX12_fits_93 : decode cX12_fits 93 = .ok (.ireturn, 1) := by decide +kernel
set_option maxRecDepth 20000 in
theorem ggX12_discount_X12_price : GoodIn wsX12_discount wsX12_price := goodIn_ca (goodIn_r _ [13, 14, 15, 16, 17, 18, 19, 20, 21, 22, 23, 24, 25, 26, 27, 28, 29, 30, 31, 32, 33, 34, 35, 36, 37, 38, 39, 40, 41, 42, 43, 44, 45, 46, 47, 48, 49, 50, 51, 52] (by decide +kernel) (by decide +kernel)) (goodIn_sub (fun _ h => List.mem_cons_of_mem _ (List.mem_append_right _ h)) (by decide +kernel))
set_option maxRecDepth 20000 in
theorem gX12_discount_X12_price : GoodIn wsX12_discount (wsV RX12 147 RX12 yX12_price wsX12_price) := goodIn_app (goodIn_of _ (by decide +kernel)) ggX12_discount_X12_price
theorem dX12_discount_0 : decode cX12_discount 0 = .ok (.iconst 0, 1) := by decide +kernel
theorem dX12_discount_1 : decode cX12_discount 1 = .ok (.istore_n 3, 1) := by decide +kernel
theorem dX12_discount_2 : decode cX12_discount 2 = .ok (.sipush 9999, 3) := by decide +kernel
theorem dX12_discount_5 : decode cX12_discount 5 = .ok (.istore 4, 2) := by decide +kernel
theorem dX12_discount_7 : decode cX12_discount 7 = .ok (.iconst 0, 1) := by decide +kernel
theorem dX12_discount_8 : decode cX12_discount 8 = .ok (.istore 5, 2) := by decide +kernel
theorem dX12_discount_10 : decode cX12_discount 10 = .ok (.iload 5, 2) := by decide +kernel
theorem dX12_discount_12 : decode cX12_discount 12 = .ok (.aload_n 0, 1) := by decide +kernel
theorem dX12_discount_13 : decode cX12_discount 13 = .ok (.getfield 93, 3) := by decide +kernel
theorem dX12_discount_16 : decode cX12_discount 16 = .ok (.if_icmp .ge 41, 3) := by decide +kernel
theorem dX12_discount_19 : decode cX12_discount 19 = .ok (.iload_n 2, 1) := by decide +kernel
theorem dX12_discount_20 : decode cX12_discount 20 = .ok (.iload 5, 2) := by decide +kernel
theorem dX12_discount_22 : decode cX12_discount 22 = .ok (.ishr, 1) := by decide +kernel
theorem dX12_discount_23 : decode cX12_discount 23 = .ok (.iconst 1, 1) := by decide +kernel
theorem dX12_discount_24 : decode cX12_discount 24 = .ok (.iand, 1) := by decide +kernel
theorem dX12_discount_25 : decode cX12_discount 25 = .ok (.iconst 1, 1) := by decide +kernel
theorem dX12_discount_26 : decode cX12_discount 26 = .ok (.if_icmp .ne 25, 3) := by decide +kernel
theorem dX12_discount_29 : decode cX12_discount 29 = .ok (.iload_n 3, 1) := by decide +kernel
theorem dX12_discount_30 : decode cX12_discount 30 = .ok (.aload_n 0, 1) := by decide +kernel
theorem dX12_discount_31 : decode cX12_discount 31 = .ok (.iload 5, 2) := by decide +kernel
theorem dX12_discount_33 : decode cX12_discount 33 = .ok (.invokevirtual 147, 3) := by decide +kernel
theorem dX12_discount_36 : decode cX12_discount 36 = .ok (.iadd, 1) := by decide +kernel
theorem dX12_discount_37 : decode cX12_discount 37 = .ok (.istore_n 3, 1) := by decide +kernel
theorem dX12_discount_38 : decode cX12_discount 38 = .ok (.iload 4, 2) := by decide +kernel
theorem dX12_discount_40 : decode cX12_discount 40 = .ok (.aload_n 0, 1) := by decide +kernel
theorem dX12_discount_41 : decode cX12_discount 41 = .ok (.iload 5, 2) := by decide +kernel
theorem dX12_discount_43 : decode cX12_discount 43 = .ok (.invokevirtual 147, 3) := by decide +kernel
theorem dX12_discount_46 : decode cX12_discount 46 = .ok (.invokestatic 150, 3) := by decide +kernel
theorem dX12_discount_49 : decode cX12_discount 49 = .ok (.istore 4, 2) := by decide +kernel
theorem dX12_discount_51 : decode cX12_discount 51 = .ok (.iinc 5 1, 3) := by decide +kernel
theorem dX12_discount_54 : decode cX12_discount 54 = .ok (.goto (-44), 3) := by decide +kernel
theorem dX12_discount_57 : decode cX12_discount 57 = .ok (.aload_n 0, 1) := by decide +kernel
theorem dX12_discount_58 : decode cX12_discount 58 = .ok (.getfield 26, 3) := by decide +kernel
theorem dX12_discount_61 : decode cX12_discount 61 = .ok (.iload_n 1, 1) := by decide +kernel
theorem dX12_discount_62 : decode cX12_discount 62 = .ok (.caload, 1) := by decide +kernel
theorem dX12_discount_63 : decode cX12_discount 63 = .ok (.bipush 112, 2) := by decide +kernel
theorem dX12_discount_65 : decode cX12_discount 65 = .ok (.if_icmp .ne 17, 3) := by decide +kernel
theorem dX12_discount_68 : decode cX12_discount 68 = .ok (.iload_n 3, 1) := by decide +kernel
theorem dX12_discount_69 : decode cX12_discount 69 = .ok (.aload_n 0, 1) := by decide +kernel
theorem dX12_discount_70 : decode cX12_discount 70 = .ok (.getfield 32, 3) := by decide +kernel
theorem dX12_discount_73 : decode cX12_discount 73 = .ok (.iload_n 1, 1) := by decide +kernel
theorem dX12_discount_74 : decode cX12_discount 74 = .ok (.iaload, 1) := by decide +kernel
theorem dX12_discount_75 : decode cX12_discount 75 = .ok (.imul, 1) := by decide +kernel
theorem dX12_discount_76 : decode cX12_discount 76 = .ok (.bipush 100, 2) := by decide +kernel
theorem dX12_discount_78 : decode cX12_discount 78 = .ok (.idiv, 1) := by decide +kernel
theorem dX12_discount_79 : decode cX12_discount 79 = .ok (.goto 27, 3) := by decide +kernel
theorem dX12_discount_82 : decode cX12_discount 82 = .ok (.aload_n 0, 1) := by decide +kernel
theorem dX12_discount_83 : decode cX12_discount 83 = .ok (.getfield 26, 3) := by decide +kernel
theorem dX12_discount_86 : decode cX12_discount 86 = .ok (.iload_n 1, 1) := by decide +kernel
theorem dX12_discount_87 : decode cX12_discount 87 = .ok (.caload, 1) := by decide +kernel
theorem dX12_discount_88 : decode cX12_discount 88 = .ok (.bipush 102, 2) := by decide +kernel
theorem dX12_discount_90 : decode cX12_discount 90 = .ok (.if_icmp .ne 8, 3) := by decide +kernel
theorem dX12_discount_93 : decode cX12_discount 93 = .ok (.iload 4, 2) := by decide +kernel
theorem dX12_discount_95 : decode cX12_discount 95 = .ok (.goto 11, 3) := by decide +kernel
theorem dX12_discount_98 : decode cX12_discount 98 = .ok (.iload_n 3, 1) := by decide +kernel
theorem dX12_discount_99 : decode cX12_discount 99 = .ok (.aload_n 0, 1) := by decide +kernel
theorem dX12_discount_100 : decode cX12_discount 100 = .ok (.getfield 38, 3) := by decide +kernel
theorem dX12_discount_103 : decode cX12_discount 103 = .ok (.iload_n 1, 1) := by decide +kernel
theorem dX12_discount_104 : decode cX12_discount 104 = .ok (.iaload, 1) := by decide +kernel
theorem dX12_discount_105 : decode cX12_discount 105 = .ok (.isub, 1) := by decide +kernel
theorem dX12_discount_106 : decode cX12_discount 106 = .ok (.ireturn, 1) := by decide +kernel
set_option maxRecDepth 20000 in
theorem ggX12_isGood_X12_fits : GoodIn wsX12_isGood wsX12_fits := goodIn_ca (goodIn_r _ [6, 7, 8, 9, 10, 11, 12, 13, 14, 15, 16, 17, 5, 18, 1, 19, 20, 21, 22, 23, 24, 25, 26, 27, 28, 29, 30, 31, 46, 47, 48, 49, 50, 51, 52, 53, 54, 55, 56, 57, 58, 59, 60, 61, 62, 63, 64, 65, 66, 67, 68, 69, 70, 71, 72, 73, 74, 75, 76, 77, 78, 79, 80, 81, 82] (by decide +kernel) (by decide +kernel)) (goodIn_sub (fun _ h => List.mem_cons_of_mem _ (List.mem_append_right _ h)) (by decide +kernel))
set_option maxRecDepth 20000 in
theorem gX12_isGood_X12_fits : GoodIn wsX12_isGood (wsV RX12 155 RX12 yX12_fits wsX12_fits) := goodIn_app (goodIn_of _ (by decide +kernel)) ggX12_isGood_X12_fits
set_option maxRecDepth 20000 in
theorem ggX12_isGood_X12_discount : GoodIn wsX12_isGood wsX12_discount := goodIn_ca (goodIn_r _ [35, 7, 36, 37, 38, 39, 1, 19, 40, 41, 42, 43, 5, 44, 45, 26, 46, 47, 48, 49, 50, 51, 52, 53, 54, 55, 56, 57, 58, 59, 60, 61, 62, 63, 64, 65, 66, 67, 68, 69, 70, 71, 72, 73, 74, 75, 76, 77, 78, 79, 80, 81, 82] (by decide +kernel) (by decide +kernel)) (goodIn_sub (fun _ h => List.mem_cons_of_mem _ (List.mem_append_right _ h)) (by decide +kernel))
set_option maxRecDepth 20000 in
theorem gX12_isGood_X12_discount : GoodIn wsX12_isGood (wsV RX12 159 RX12 yX12_discount wsX12_discount) := goodIn_app (goodIn_of _ (by decide +kernel)) ggX12_isGood_X12_discount
theorem dX12_isGood_0 : decode cX12_isGood 0 = .ok (.aload_n 0, 1) := by decide +kernel
theorem dX12_isGood_1 : decode cX12_isGood 1 = .ok (.iload_n 1, 1) := by decide +kernel
theorem dX12_isGood_2 : decode cX12_isGood 2 = .ok (.iload_n 2, 1) := by decide +kernel
theorem dX12_isGood_3 : decode cX12_isGood 3 = .ok (.invokevirtual 155, 3) := by decide +kernel
theorem dX12_isGood_6 : decode cX12_isGood 6 = .ok (.ifCond .eq 27, 3) := by decide +kernel
theorem dX12_isGood_9 : decode cX12_isGood 9 = .ok (.aload_n 0, 1) := by decide +kernel
theorem dX12_isGood_10 : decode cX12_isGood 10 = .ok (.getfield 26, 3) := by decide +kernel
theorem dX12_isGood_13 : decode cX12_isGood 13 = .ok (.iload_n 1, 1) := by decide +kernel
theorem dX12_isGood_14 : decode cX12_isGood 14 = .ok (.caload, 1) := by decide +kernel
theorem dX12_isGood_15 : decode cX12_isGood 15 = .ok (.bipush 98, 2) := by decide +kernel
theorem dX12_isGood_17 : decode cX12_isGood 17 = .ok (.if_icmp .ne 12, 3) := by decide +kernel
theorem dX12_isGood_20 : decode cX12_isGood 20 = .ok (.aload_n 0, 1) := by decide +kernel
theorem dX12_isGood_21 : decode cX12_isGood 21 = .ok (.iload_n 1, 1) := by decide +kernel
theorem dX12_isGood_22 : decode cX12_isGood 22 = .ok (.iload_n 2, 1) := by decide +kernel
theorem dX12_isGood_23 : decode cX12_isGood 23 = .ok (.invokevirtual 159, 3) := by decide +kernel
theorem dX12_isGood_26 : decode cX12_isGood 26 = .ok (.ifCond .le 7, 3) := by decide +kernel
theorem dX12_isGood_29 : decode cX12_isGood 29 = .ok (.iconst 1, 1) := by decide +kernel
theorem dX12_isGood_30 : decode cX12_isGood 30 = .ok (.goto 4, 3) := by decide +kernel
theorem dX12_isGood_33 : decode cX12_isGood 33 = .ok (.iconst 0, 1) := by decide +kernel
theorem dX12_isGood_34 : decode cX12_isGood 34 = .ok (.ireturn, 1) := by decide +kernel
set_option maxRecDepth 20000 in
theorem ggX12_thresholds_X12_canThreshold : GoodIn wsX12_thresholds wsX12_canThreshold := goodIn_ca (goodIn_r _ [9, 10, 11, 2, 12, 13, 14, 15, 8, 16, 17, 18, 19, 20, 21, 22, 23, 24, 25, 26, 27, 28, 29, 30, 31, 32, 33, 34, 35, 36, 37, 38, 39, 40, 41, 42, 43, 44, 45, 46, 47, 48, 49, 50, 51, 52, 53, 54, 55, 56] (by decide +kernel) (by decide +kernel)) (goodIn_sub (fun _ h => List.mem_cons_of_mem _ (List.mem_append_right _ h)) (by decide +kernel))
set_option maxRecDepth 20000 in
theorem gX12_thresholds_X12_canThreshold : GoodIn wsX12_thresholds (wsV RX12 162 RX12 yX12_canThreshold wsX12_canThreshold) := goodIn_app (goodIn_of _ (by decide +kernel)) ggX12_thresholds_X12_canThreshold
theorem dX12_thresholds_0 : decode cX12_thresholds 0 = .ok (.iconst 0, 1) := by decide +kernel
theorem dX12_thresholds_1 : decode cX12_thresholds 1 = .ok (.istore 4, 2) := by decide +kernel
theorem dX12_thresholds_3 : decode cX12_thresholds 3 = .ok (.iconst 0, 1) := by decide +kernel
theorem dX12_thresholds_4 : decode cX12_thresholds 4 = .ok (.istore 5, 2) := by decide +kernel
theorem dX12_thresholds_6 : decode cX12_thresholds 6 = .ok (.iload 5, 2) := by decide +kernel
theorem dX12_thresholds_8 : decode cX12_thresholds 8 = .ok (.aload_n 0, 1) := by decide +kernel
theorem dX12_thresholds_9 : decode cX12_thresholds 9 = .ok (.getfield 121, 3) := by decide +kernel
theorem dX12_thresholds_12 : decode cX12_thresholds 12 = .ok (.if_icmp .ge 182, 3) := by decide +kernel
theorem dX12_thresholds_15 : decode cX12_thresholds 15 = .ok (.aload_n 0, 1) := by decide +kernel
theorem dX12_thresholds_16 : decode cX12_thresholds 16 = .ok (.iload 5, 2) := by decide +kernel
theorem dX12_thresholds_18 : decode cX12_thresholds 18 = .ok (.iload_n 1, 1) := by decide +kernel
theorem dX12_thresholds_19 : decode cX12_thresholds 19 = .ok (.iload_n 2, 1) := by decide +kernel
theorem dX12_thresholds_20 : decode cX12_thresholds 20 = .ok (.invokevirtual 162, 3) := by decide +kernel
theorem dX12_thresholds_23 : decode cX12_thresholds 23 = .ok (.istore 6, 2) := by decide +kernel
theorem dX12_thresholds_25 : decode cX12_thresholds 25 = .ok (.iconst 0, 1) := by decide +kernel
theorem dX12_thresholds_26 : decode cX12_thresholds 26 = .ok (.istore 7, 2) := by decide +kernel
theorem dX12_thresholds_28 : decode cX12_thresholds 28 = .ok (.iload 7, 2) := by decide +kernel
theorem dX12_thresholds_30 : decode cX12_thresholds 30 = .ok (.aload_n 0, 1) := by decide +kernel
theorem dX12_thresholds_31 : decode cX12_thresholds 31 = .ok (.getfield 121, 3) := by decide +kernel
theorem dX12_thresholds_34 : decode cX12_thresholds 34 = .ok (.if_icmp .ge 120, 3) := by decide +kernel
theorem dX12_thresholds_37 : decode cX12_thresholds 37 = .ok (.iload 6, 2) := by decide +kernel
theorem dX12_thresholds_39 : decode cX12_thresholds 39 = .ok (.ifCond .eq 115, 3) := by decide +kernel
theorem dX12_thresholds_42 : decode cX12_thresholds 42 = .ok (.iload 7, 2) := by decide +kernel
theorem dX12_thresholds_44 : decode cX12_thresholds 44 = .ok (.iload 5, 2) := by decide +kernel
theorem dX12_thresholds_46 : decode cX12_thresholds 46 = .ok (.if_icmp .eq 46, 3) := by decide +kernel
theorem dX12_thresholds_49 : decode cX12_thresholds 49 = .ok (.aload_n 0, 1) := by decide +kernel
theorem dX12_thresholds_50 : decode cX12_thresholds 50 = .ok (.getfield 44, 3) := by decide +kernel
theorem dX12_thresholds_53 : decode cX12_thresholds 53 = .ok (.iload 5, 2) := by decide +kernel
theorem dX12_thresholds_55 : decode cX12_thresholds 55 = .ok (.iaload, 1) := by decide +kernel
theorem dX12_thresholds_56 : decode cX12_thresholds 56 = .ok (.iconst (-1), 1) := by decide +kernel
theorem dX12_thresholds_57 : decode cX12_thresholds 57 = .ok (.if_icmp .eq 35, 3) := by decide +kernel
theorem dX12_thresholds_60 : decode cX12_thresholds 60 = .ok (.aload_n 0, 1) := by decide +kernel
theorem dX12_thresholds_61 : decode cX12_thresholds 61 = .ok (.getfield 44, 3) := by decide +kernel
theorem dX12_thresholds_64 : decode cX12_thresholds 64 = .ok (.iload 7, 2) := by decide +kernel
theorem dX12_thresholds_66 : decode cX12_thresholds 66 = .ok (.iaload, 1) := by decide +kernel
theorem dX12_thresholds_67 : decode cX12_thresholds 67 = .ok (.aload_n 0, 1) := by decide +kernel
theorem dX12_thresholds_68 : decode cX12_thresholds 68 = .ok (.getfield 44, 3) := by decide +kernel
theorem dX12_thresholds_71 : decode cX12_thresholds 71 = .ok (.iload 5, 2) := by decide +kernel
theorem dX12_thresholds_73 : decode cX12_thresholds 73 = .ok (.iaload, 1) := by decide +kernel
theorem dX12_thresholds_74 : decode cX12_thresholds 74 = .ok (.if_icmp .ne 18, 3) := by decide +kernel
theorem dX12_thresholds_77 : decode cX12_thresholds 77 = .ok (.aload_n 0, 1) := by decide +kernel
theorem dX12_thresholds_78 : decode cX12_thresholds 78 = .ok (.iload 7, 2) := by decide +kernel
theorem dX12_thresholds_80 : decode cX12_thresholds 80 = .ok (.iload_n 1, 1) := by decide +kernel
theorem dX12_thresholds_81 : decode cX12_thresholds 81 = .ok (.iload_n 2, 1) := by decide +kernel
theorem dX12_thresholds_82 : decode cX12_thresholds 82 = .ok (.invokevirtual 162, 3) := by decide +kernel
theorem dX12_thresholds_85 : decode cX12_thresholds 85 = .ok (.ifCond .eq 7, 3) := by decide +kernel
theorem dX12_thresholds_88 : decode cX12_thresholds 88 = .ok (.iconst 1, 1) := by decide +kernel
theorem dX12_thresholds_89 : decode cX12_thresholds 89 = .ok (.goto 4, 3) := by decide +kernel
theorem dX12_thresholds_92 : decode cX12_thresholds 92 = .ok (.iconst 0, 1) := by decide +kernel
theorem dX12_thresholds_93 : decode cX12_thresholds 93 = .ok (.istore 8, 2) := by decide +kernel
theorem dX12_thresholds_95 : decode cX12_thresholds 95 = .ok (.iload 8, 2) := by decide +kernel
theorem dX12_thresholds_97 : decode cX12_thresholds 97 = .ok (.ifCond .eq 44, 3) := by decide +kernel
theorem dX12_thresholds_100 : decode cX12_thresholds 100 = .ok (.aload_n 0, 1) := by decide +kernel
theorem dX12_thresholds_101 : decode cX12_thresholds 101 = .ok (.getfield 32, 3) := by decide +kernel
theorem dX12_thresholds_104 : decode cX12_thresholds 104 = .ok (.iload 5, 2) := by decide +kernel
theorem dX12_thresholds_106 : decode cX12_thresholds 106 = .ok (.iaload, 1) := by decide +kernel
theorem dX12_thresholds_107 : decode cX12_thresholds 107 = .ok (.aload_n 0, 1) := by decide +kernel
theorem dX12_thresholds_108 : decode cX12_thresholds 108 = .ok (.getfield 32, 3) := by decide +kernel
theorem dX12_thresholds_111 : decode cX12_thresholds 111 = .ok (.iload 7, 2) := by decide +kernel
theorem dX12_thresholds_113 : decode cX12_thresholds 113 = .ok (.iaload, 1) := by decide +kernel
theorem dX12_thresholds_114 : decode cX12_thresholds 114 = .ok (.if_icmp .gt 27, 3) := by decide +kernel
theorem dX12_thresholds_117 : decode cX12_thresholds 117 = .ok (.aload_n 0, 1) := by decide +kernel
theorem dX12_thresholds_118 : decode cX12_thresholds 118 = .ok (.getfield 32, 3) := by decide +kernel
theorem dX12_thresholds_121 : decode cX12_thresholds 121 = .ok (.iload 5, 2) := by decide +kernel
theorem dX12_thresholds_123 : decode cX12_thresholds 123 = .ok (.iaload, 1) := by decide +kernel
theorem dX12_thresholds_124 : decode cX12_thresholds 124 = .ok (.aload_n 0, 1) := by decide +kernel
theorem dX12_thresholds_125 : decode cX12_thresholds 125 = .ok (.getfield 32, 3) := by decide +kernel
theorem dX12_thresholds_128 : decode cX12_thresholds 128 = .ok (.iload 7, 2) := by decide +kernel
theorem dX12_thresholds_130 : decode cX12_thresholds 130 = .ok (.iaload, 1) := by decide +kernel
theorem dX12_thresholds_131 : decode cX12_thresholds 131 = .ok (.if_icmp .ne 14, 3) := by decide +kernel
theorem dX12_thresholds_134 : decode cX12_thresholds 134 = .ok (.iload 5, 2) := by decide +kernel
theorem dX12_thresholds_136 : decode cX12_thresholds 136 = .ok (.iload 7, 2) := by decide +kernel
theorem dX12_thresholds_138 : decode cX12_thresholds 138 = .ok (.if_icmp .ge 7, 3) := by decide +kernel
theorem dX12_thresholds_141 : decode cX12_thresholds 141 = .ok (.iconst 1, 1) := by decide +kernel
theorem dX12_thresholds_142 : decode cX12_thresholds 142 = .ok (.goto 4, 3) := by decide +kernel
theorem dX12_thresholds_145 : decode cX12_thresholds 145 = .ok (.iconst 0, 1) := by decide +kernel
theorem dX12_thresholds_146 : decode cX12_thresholds 146 = .ok (.istore 6, 2) := by decide +kernel
theorem dX12_thresholds_148 : decode cX12_thresholds 148 = .ok (.iinc 7 1, 3) := by decide +kernel
theorem dX12_thresholds_151 : decode cX12_thresholds 151 = .ok (.goto (-123), 3) := by decide +kernel
theorem dX12_thresholds_154 : decode cX12_thresholds 154 = .ok (.iload 4, 2) := by decide +kernel
theorem dX12_thresholds_156 : decode cX12_thresholds 156 = .ok (.iload 6, 2) := by decide +kernel
theorem dX12_thresholds_158 : decode cX12_thresholds 158 = .ok (.ifCond .eq 13, 3) := by decide +kernel
theorem dX12_thresholds_161 : decode cX12_thresholds 161 = .ok (.aload_n 0, 1) := by decide +kernel
theorem dX12_thresholds_162 : decode cX12_thresholds 162 = .ok (.getfield 32, 3) := by decide +kernel
theorem dX12_thresholds_165 : decode cX12_thresholds 165 = .ok (.iload 5, 2) := by decide +kernel
theorem dX12_thresholds_167 : decode cX12_thresholds 167 = .ok (.iaload, 1) := by decide +kernel
theorem dX12_thresholds_168 : decode cX12_thresholds 168 = .ok (.goto 4, 3) := by decide +kernel
theorem dX12_thresholds_171 : decode cX12_thresholds 171 = .ok (.iconst 0, 1) := by decide +kernel
theorem dX12_thresholds_172 : decode cX12_thresholds 172 = .ok (.iadd, 1) := by decide +kernel
theorem dX12_thresholds_173 : decode cX12_thresholds 173 = .ok (.istore 4, 2) := by decide +kernel
theorem dX12_thresholds_175 : decode cX12_thresholds 175 = .ok (.iload_n 3, 1) := by decide +kernel
theorem dX12_thresholds_176 : decode cX12_thresholds 176 = .ok (.ifCond .eq 12, 3) := by decide +kernel
theorem dX12_thresholds_179 : decode cX12_thresholds 179 = .ok (.aload_n 0, 1) := by decide +kernel
theorem dX12_thresholds_180 : decode cX12_thresholds 180 = .ok (.getfield 85, 3) := by decide +kernel
theorem dX12_thresholds_183 : decode cX12_thresholds 183 = .ok (.iload 5, 2) := by decide +kernel
theorem dX12_thresholds_185 : decode cX12_thresholds 185 = .ok (.iload 6, 2) := by decide +kernel
theorem dX12_thresholds_187 : decode cX12_thresholds 187 = .ok (.bastore, 1) := by decide +kernel
theorem dX12_thresholds_188 : decode cX12_thresholds 188 = .ok (.iinc 5 1, 3) := by decide +kernel
theorem dX12_thresholds_191 : decode cX12_thresholds 191 = .ok (.goto (-185), 3) := by decide +kernel
theorem dX12_thresholds_194 : decode cX12_thresholds 194 = .ok (.iload 4, 2) := by decide +kernel
theorem dX12_thresholds_196 : decode cX12_thresholds 196 = .ok (.ireturn, 1) := by decide +kernel
set_option maxRecDepth 20000 in
theorem ggX12_canThreshold_X12_leftOf : GoodIn wsX12_canThreshold wsX12_leftOf := goodIn_ca (goodIn_r _ [9, 10, 11, 12, 13, 14, 15, 16, 17, 18, 19, 20, 21, 22, 23, 24, 25, 26, 27, 28, 29, 30, 31, 32, 33, 34, 35, 36, 37, 38, 39, 40, 41, 42, 43, 44, 45, 46, 47, 48, 49] (by decide +kernel) (by decide +kernel)) (goodIn_sub (fun _ h => List.mem_cons_of_mem _ (List.mem_append_right _ h)) (by decide +kernel))
set_option maxRecDepth 20000 in
theorem gX12_canThreshold_X12_leftOf : GoodIn wsX12_canThreshold (wsV RX12 128 RX12 yX12_leftOf wsX12_leftOf) := goodIn_app (goodIn_of _ (by decide +kernel)) ggX12_canThreshold_X12_leftOf
theorem dX12_canThreshold_0 : decode cX12_canThreshold 0 = .ok (.aload_n 0, 1) := by decide +kernel
theorem dX12_canThreshold_1 : decode cX12_canThreshold 1 = .ok (.getfield 26, 3) := by decide +kernel
theorem dX12_canThreshold_4 : decode cX12_canThreshold 4 = .ok (.iload_n 1, 1) := by decide +kernel
theorem dX12_canThreshold_5 : decode cX12_canThreshold 5 = .ok (.caload, 1) := by decide +kernel
theorem dX12_canThreshold_6 : decode cX12_canThreshold 6 = .ok (.bipush 116, 2) := by decide +kernel
theorem dX12_canThreshold_8 : decode cX12_canThreshold 8 = .ok (.if_icmp .ne 52, 3) := by decide +kernel
theorem dX12_canThreshold_11 : decode cX12_canThreshold 11 = .ok (.aload_n 0, 1) := by decide +kernel
theorem dX12_canThreshold_12 : decode cX12_canThreshold 12 = .ok (.iload_n 1, 1) := by decide +kernel
theorem dX12_canThreshold_13 : decode cX12_canThreshold 13 = .ok (.invokevirtual 128, 3) := by decide +kernel
theorem dX12_canThreshold_16 : decode cX12_canThreshold 16 = .ok (.ifCond .le 44, 3) := by decide +kernel
theorem dX12_canThreshold_19 : decode cX12_canThreshold 19 = .ok (.iload_n 3, 1) := by decide +kernel
theorem dX12_canThreshold_20 : decode cX12_canThreshold 20 = .ok (.iload_n 2, 1) := by decide +kernel
theorem dX12_canThreshold_21 : decode cX12_canThreshold 21 = .ok (.isub, 1) := by decide +kernel
theorem dX12_canThreshold_22 : decode cX12_canThreshold 22 = .ok (.aload_n 0, 1) := by decide +kernel
theorem dX12_canThreshold_23 : decode cX12_canThreshold 23 = .ok (.getfield 29, 3) := by decide +kernel
theorem dX12_canThreshold_26 : decode cX12_canThreshold 26 = .ok (.iload_n 1, 1) := by decide +kernel
theorem dX12_canThreshold_27 : decode cX12_canThreshold 27 = .ok (.iaload, 1) := by decide +kernel
theorem dX12_canThreshold_28 : decode cX12_canThreshold 28 = .ok (.if_icmp .lt 32, 3) := by decide +kernel
theorem dX12_canThreshold_31 : decode cX12_canThreshold 31 = .ok (.aload_n 0, 1) := by decide +kernel
theorem dX12_canThreshold_32 : decode cX12_canThreshold 32 = .ok (.getfield 44, 3) := by decide +kernel
theorem dX12_canThreshold_35 : decode cX12_canThreshold 35 = .ok (.iload_n 1, 1) := by decide +kernel
theorem dX12_canThreshold_36 : decode cX12_canThreshold 36 = .ok (.iaload, 1) := by decide +kernel
theorem dX12_canThreshold_37 : decode cX12_canThreshold 37 = .ok (.iconst (-1), 1) := by decide +kernel
theorem dX12_canThreshold_38 : decode cX12_canThreshold 38 = .ok (.if_icmp .eq 18, 3) := by decide +kernel
theorem dX12_canThreshold_41 : decode cX12_canThreshold 41 = .ok (.aload_n 0, 1) := by decide +kernel
theorem dX12_canThreshold_42 : decode cX12_canThreshold 42 = .ok (.getfield 61, 3) := by decide +kernel
theorem dX12_canThreshold_45 : decode cX12_canThreshold 45 = .ok (.aload_n 0, 1) := by decide +kernel
theorem dX12_canThreshold_46 : decode cX12_canThreshold 46 = .ok (.getfield 44, 3) := by decide +kernel
theorem dX12_canThreshold_49 : decode cX12_canThreshold 49 = .ok (.iload_n 1, 1) := by decide +kernel
theorem dX12_canThreshold_50 : decode cX12_canThreshold 50 = .ok (.iaload, 1) := by decide +kernel
theorem dX12_canThreshold_51 : decode cX12_canThreshold 51 = .ok (.iaload, 1) := by decide +kernel
theorem dX12_canThreshold_52 : decode cX12_canThreshold 52 = .ok (.iconst (-1), 1) := by decide +kernel
theorem dX12_canThreshold_53 : decode cX12_canThreshold 53 = .ok (.if_icmp .ne 7, 3) := by decide +kernel
theorem dX12_canThreshold_56 : decode cX12_canThreshold 56 = .ok (.iconst 1, 1) := by decide +kernel
theorem dX12_canThreshold_57 : decode cX12_canThreshold 57 = .ok (.goto 4, 3) := by decide +kernel
theorem dX12_canThreshold_60 : decode cX12_canThreshold 60 = .ok (.iconst 0, 1) := by decide +kernel
theorem dX12_canThreshold_61 : decode cX12_canThreshold 61 = .ok (.ireturn, 1) := by decide +kernel
set_option maxRecDepth 20000 in
theorem ggX12_hopes_X12_canThreshold : GoodIn wsX12_hopes wsX12_canThreshold := goodIn_ca (goodIn_r _ [7, 8, 9, 10, 11, 12, 13, 14, 6, 15, 16, 17, 18, 19, 20, 21, 22, 23, 24, 25, 26, 27, 28, 29, 30, 31, 32, 33, 34, 35, 36, 37, 38, 39, 40, 41, 42, 43, 44, 45, 46, 47, 48, 49, 50, 51, 52, 53, 54, 55] (by decide +kernel) (by decide +kernel)) (goodIn_sub (fun _ h => List.mem_cons_of_mem _ (List.mem_append_right _ h)) (by decide +kernel))
set_option maxRecDepth 20000 in
theorem gX12_hopes_X12_canThreshold : GoodIn wsX12_hopes (wsV RX12 162 RX12 yX12_canThreshold wsX12_canThreshold) := goodIn_app (goodIn_of _ (by decide +kernel)) ggX12_hopes_X12_canThreshold
theorem dX12_hopes_0 : decode cX12_hopes 0 = .ok (.iconst 0, 1) := by decide +kernel
theorem dX12_hopes_1 : decode cX12_hopes 1 = .ok (.istore_n 3, 1) := by decide +kernel
theorem dX12_hopes_2 : decode cX12_hopes 2 = .ok (.iconst 0, 1) := by decide +kernel
theorem dX12_hopes_3 : decode cX12_hopes 3 = .ok (.istore 4, 2) := by decide +kernel
theorem dX12_hopes_5 : decode cX12_hopes 5 = .ok (.iload 4, 2) := by decide +kernel
theorem dX12_hopes_7 : decode cX12_hopes 7 = .ok (.aload_n 0, 1) := by decide +kernel
theorem dX12_hopes_8 : decode cX12_hopes 8 = .ok (.getfield 121, 3) := by decide +kernel
theorem dX12_hopes_11 : decode cX12_hopes 11 = .ok (.if_icmp .ge 34, 3) := by decide +kernel
theorem dX12_hopes_14 : decode cX12_hopes 14 = .ok (.iload_n 3, 1) := by decide +kernel
theorem dX12_hopes_15 : decode cX12_hopes 15 = .ok (.aload_n 0, 1) := by decide +kernel
theorem dX12_hopes_16 : decode cX12_hopes 16 = .ok (.iload 4, 2) := by decide +kernel
theorem dX12_hopes_18 : decode cX12_hopes 18 = .ok (.iload_n 1, 1) := by decide +kernel
theorem dX12_hopes_19 : decode cX12_hopes 19 = .ok (.iload_n 2, 1) := by decide +kernel
theorem dX12_hopes_20 : decode cX12_hopes 20 = .ok (.invokevirtual 162, 3) := by decide +kernel
theorem dX12_hopes_23 : decode cX12_hopes 23 = .ok (.ifCond .eq 13, 3) := by decide +kernel
theorem dX12_hopes_26 : decode cX12_hopes 26 = .ok (.aload_n 0, 1) := by decide +kernel
theorem dX12_hopes_27 : decode cX12_hopes 27 = .ok (.getfield 32, 3) := by decide +kernel
theorem dX12_hopes_30 : decode cX12_hopes 30 = .ok (.iload 4, 2) := by decide +kernel
theorem dX12_hopes_32 : decode cX12_hopes 32 = .ok (.iaload, 1) := by decide +kernel
theorem dX12_hopes_33 : decode cX12_hopes 33 = .ok (.goto 4, 3) := by decide +kernel
theorem dX12_hopes_36 : decode cX12_hopes 36 = .ok (.iconst 0, 1) := by decide +kernel
theorem dX12_hopes_37 : decode cX12_hopes 37 = .ok (.iadd, 1) := by decide +kernel
theorem dX12_hopes_38 : decode cX12_hopes 38 = .ok (.istore_n 3, 1) := by decide +kernel
theorem dX12_hopes_39 : decode cX12_hopes 39 = .ok (.iinc 4 1, 3) := by decide +kernel
theorem dX12_hopes_42 : decode cX12_hopes 42 = .ok (.goto (-37), 3) := by decide +kernel
theorem dX12_hopes_45 : decode cX12_hopes 45 = .ok (.iload_n 3, 1) := by decide +kernel
theorem dX12_hopes_46 : decode cX12_hopes 46 = .ok (.ireturn, 1) := by decide +kernel
set_option maxRecDepth 20000 in
theorem ggX12_mayUse_X12_leftOf : GoodIn wsX12_mayUse wsX12_leftOf := goodIn_ca (goodIn_r _ [9, 10, 11, 12, 13, 14, 15, 16, 17, 18, 19, 20, 21, 22, 23, 24, 25, 26, 27, 28, 29, 30, 31, 32, 33, 34, 35, 36, 37, 38, 39, 40, 41, 42, 43, 44, 45, 46, 47, 48, 49] (by decide +kernel) (by decide +kernel)) (goodIn_sub (fun _ h => List.mem_cons_of_mem _ (List.mem_append_right _ h)) (by decide +kernel))
set_option maxRecDepth 20000 in
theorem gX12_mayUse_X12_leftOf : GoodIn wsX12_mayUse (wsV RX12 128 RX12 yX12_leftOf wsX12_leftOf) := goodIn_app (goodIn_of _ (by decide +kernel)) ggX12_mayUse_X12_leftOf
theorem dX12_mayUse_0 : decode cX12_mayUse 0 = .ok (.aload_n 0, 1) := by decide +kernel
theorem dX12_mayUse_1 : decode cX12_mayUse 1 = .ok (.getfield 26, 3) := by decide +kernel
theorem dX12_mayUse_4 : decode cX12_mayUse 4 = .ok (.iload_n 1, 1) := by decide +kernel
theorem dX12_mayUse_5 : decode cX12_mayUse 5 = .ok (.caload, 1) := by decide +kernel
theorem dX12_mayUse_6 : decode cX12_mayUse 6 = .ok (.bipush 116, 2) := by decide +kernel
theorem dX12_mayUse_8 : decode cX12_mayUse 8 = .ok (.if_icmp .eq 61, 3) := by decide +kernel
theorem dX12_mayUse_11 : decode cX12_mayUse 11 = .ok (.aload_n 0, 1) := by decide +kernel
theorem dX12_mayUse_12 : decode cX12_mayUse 12 = .ok (.getfield 58, 3) := by decide +kernel
theorem dX12_mayUse_15 : decode cX12_mayUse 15 = .ok (.iload_n 1, 1) := by decide +kernel
theorem dX12_mayUse_16 : decode cX12_mayUse 16 = .ok (.iaload, 1) := by decide +kernel
theorem dX12_mayUse_17 : decode cX12_mayUse 17 = .ok (.aload_n 0, 1) := by decide +kernel
theorem dX12_mayUse_18 : decode cX12_mayUse 18 = .ok (.iload_n 1, 1) := by decide +kernel
theorem dX12_mayUse_19 : decode cX12_mayUse 19 = .ok (.invokevirtual 128, 3) := by decide +kernel
theorem dX12_mayUse_22 : decode cX12_mayUse 22 = .ok (.if_icmp .ge 47, 3) := by decide +kernel
theorem dX12_mayUse_25 : decode cX12_mayUse 25 = .ok (.aload_n 0, 1) := by decide +kernel
theorem dX12_mayUse_26 : decode cX12_mayUse 26 = .ok (.getfield 44, 3) := by decide +kernel
theorem dX12_mayUse_29 : decode cX12_mayUse 29 = .ok (.iload_n 1, 1) := by decide +kernel
theorem dX12_mayUse_30 : decode cX12_mayUse 30 = .ok (.iaload, 1) := by decide +kernel
theorem dX12_mayUse_31 : decode cX12_mayUse 31 = .ok (.iconst (-1), 1) := by decide +kernel
theorem dX12_mayUse_32 : decode cX12_mayUse 32 = .ok (.if_icmp .eq 33, 3) := by decide +kernel
theorem dX12_mayUse_35 : decode cX12_mayUse 35 = .ok (.aload_n 0, 1) := by decide +kernel
theorem dX12_mayUse_36 : decode cX12_mayUse 36 = .ok (.getfield 61, 3) := by decide +kernel
theorem dX12_mayUse_39 : decode cX12_mayUse 39 = .ok (.aload_n 0, 1) := by decide +kernel
theorem dX12_mayUse_40 : decode cX12_mayUse 40 = .ok (.getfield 44, 3) := by decide +kernel
theorem dX12_mayUse_43 : decode cX12_mayUse 43 = .ok (.iload_n 1, 1) := by decide +kernel
theorem dX12_mayUse_44 : decode cX12_mayUse 44 = .ok (.iaload, 1) := by decide +kernel
theorem dX12_mayUse_45 : decode cX12_mayUse 45 = .ok (.iaload, 1) := by decide +kernel
theorem dX12_mayUse_46 : decode cX12_mayUse 46 = .ok (.iconst (-1), 1) := by decide +kernel
theorem dX12_mayUse_47 : decode cX12_mayUse 47 = .ok (.if_icmp .eq 18, 3) := by decide +kernel
theorem dX12_mayUse_50 : decode cX12_mayUse 50 = .ok (.aload_n 0, 1) := by decide +kernel
theorem dX12_mayUse_51 : decode cX12_mayUse 51 = .ok (.getfield 61, 3) := by decide +kernel
theorem dX12_mayUse_54 : decode cX12_mayUse 54 = .ok (.aload_n 0, 1) := by decide +kernel
theorem dX12_mayUse_55 : decode cX12_mayUse 55 = .ok (.getfield 44, 3) := by decide +kernel
theorem dX12_mayUse_58 : decode cX12_mayUse 58 = .ok (.iload_n 1, 1) := by decide +kernel
theorem dX12_mayUse_59 : decode cX12_mayUse 59 = .ok (.iaload, 1) := by decide +kernel
theorem dX12_mayUse_60 : decode cX12_mayUse 60 = .ok (.iaload, 1) := by decide +kernel
theorem dX12_mayUse_61 : decode cX12_mayUse 61 = .ok (.iload_n 1, 1) := by decide +kernel
theorem dX12_mayUse_62 : decode cX12_mayUse 62 = .ok (.if_icmp .ne 7, 3) := by decide +kernel
theorem dX12_mayUse_65 : decode cX12_mayUse 65 = .ok (.iconst 1, 1) := by decide +kernel
theorem dX12_mayUse_66 : decode cX12_mayUse 66 = .ok (.goto 4, 3) := by decide +kernel
theorem dX12_mayUse_69 : decode cX12_mayUse 69 = .ok (.iconst 0, 1) := by decide +kernel
theorem dX12_mayUse_70 : decode cX12_mayUse 70 = .ok (.ireturn, 1) := by decide +kernel
set_option maxRecDepth 20000 in
theorem ggX12_goes_X12_thresholds : GoodIn wsX12_goes wsX12_thresholds := goodIn_ca (goodIn_r _ [20, 8, 21, 22, 23, 24, 25, 26, 19, 27, 28, 29, 30, 31, 32, 33, 34, 35, 36, 37, 101, 102, 103, 104, 105, 106, 107, 108, 109, 110, 111, 112, 113, 114, 115, 116, 117, 118, 119, 120, 121, 122, 123, 124, 125, 126, 127, 128, 129, 130, 131, 132, 133, 134, 135, 136, 137] (by decide +kernel) (by decide +kernel)) (goodIn_sub (fun _ h => List.mem_cons_of_mem _ (List.mem_append_right _ h)) (by decide +kernel))
set_option maxRecDepth 20000 in
theorem gX12_goes_X12_thresholds : GoodIn wsX12_goes (wsV RX12 165 RX12 yX12_thresholds wsX12_thresholds) := goodIn_app (goodIn_of _ (by decide +kernel)) ggX12_goes_X12_thresholds
set_option maxRecDepth 20000 in
theorem ggX12_goes_X12_goes : GoodIn wsX12_goes wsX12_goes := goodIn_ca (goodIn_r _ [0, 1, 2, 3, 4, 5, 6, 7, 8, 9, 10, 11, 12, 13, 14, 15, 16, 17, 18, 19, 20, 21, 22, 23, 24, 25, 26, 27, 28, 29, 30, 31, 32, 33, 34, 35, 36, 37, 38, 39, 40, 41, 42, 43, 44, 45, 46, 47, 48, 49, 50, 51, 52, 53, 54, 55, 56, 57, 58, 59, 60, 61, 62, 63, 64, 65, 66, 67, 68, 69, 70, 71, 72, 73, 74, 75, 76, 77, 78, 79, 80, 81, 82, 83, 84, 85, 86, 87, 88, 89, 90, 91, 92, 93, 94, 95, 96, 97, 98, 99, 100, 101, 102, 103, 104, 105, 106, 107, 108, 109, 110, 111, 112, 113, 114, 115, 116, 117, 118, 119, 120, 121, 122, 123, 124, 125, 126, 127, 128, 129, 130, 131, 132, 133, 134, 135, 136, 137] (by decide +kernel) (by decide +kernel)) (goodIn_sub (fun _ h => List.mem_cons_of_mem _ (List.mem_append_right _ h)) (by decide +kernel))
set_option maxRecDepth 20000 in
theorem gX12_goes_X12_goes : GoodIn wsX12_goes (wsV RX12 181 RX12 yX12_goes wsX12_goes) := goodIn_app (goodIn_of _ (by decide +kernel)) ggX12_goes_X12_goes
set_option maxRecDepth 20000 in
theorem ggX12_goes_X12_hopes : GoodIn wsX12_goes wsX12_hopes := goodIn_ca (goodIn_r _ [44, 8, 22, 24, 25, 26, 19, 27, 28, 29, 21, 30, 31, 32, 33, 34, 35, 36, 37, 101, 102, 103, 104, 105, 106, 107, 108, 109, 110, 111, 112, 113, 114, 115, 116, 117, 118, 119, 120, 121, 122, 123, 124, 125, 126, 127, 128, 129, 130, 131, 132, 133, 134, 135, 136, 137] (by decide +kernel) (by decide +kernel)) (goodIn_sub (fun _ h => List.mem_cons_of_mem _ (List.mem_append_right _ h)) (by decide +kernel))
set_option maxRecDepth 20000 in
theorem gX12_goes_X12_hopes : GoodIn wsX12_goes (wsV RX12 185 RX12 yX12_hopes wsX12_hopes) := goodIn_app (goodIn_of _ (by decide +kernel)) ggX12_goes_X12_hopes
set_option maxRecDepth 20000 in
theorem ggX12_goes_X12_mayUse : GoodIn wsX12_goes wsX12_mayUse := goodIn_ca (goodIn_r _ [48, 28, 10, 21, 30, 31, 32, 33, 19, 34, 35, 36, 37, 101, 102, 103, 104, 105, 106, 107, 108, 109, 110, 111, 112, 113, 114, 115, 116, 117, 118, 119, 120, 121, 122, 123, 124, 125, 126, 127, 128, 129, 130, 131, 132, 133, 134, 135, 136, 137] (by decide +kernel) (by decide +kernel)) (goodIn_sub (fun _ h => List.mem_cons_of_mem _ (List.mem_append_right _ h)) (by decide +kernel))
set_option maxRecDepth 20000 in
theorem gX12_goes_X12_mayUse : GoodIn wsX12_goes (wsV RX12 187 RX12 yX12_mayUse wsX12_mayUse) := goodIn_app (goodIn_of _ (by decide +kernel)) ggX12_goes_X12_mayUse
set_option maxRecDepth 20000 in
theorem ggX12_goes_X12_chooses : GoodIn wsX12_goes wsX12_chooses := goodIn_ca (goodIn_r _ [52, 1, 53, 54, 55, 56, 57, 58, 59, 60, 61, 62, 19, 63, 28, 22, 64, 65, 66, 67, 68, 69, 70, 71, 72, 73, 74, 75, 76, 77, 78, 79, 80, 81, 82, 29, 83, 84, 85, 86, 87, 88, 89, 90, 91, 92, 93, 94, 95, 96, 97, 98, 99, 49, 50, 51, 0, 2, 3, 4, 5, 6, 7, 8, 9, 10, 11, 12, 13, 14, 15, 16, 17, 18, 20, 21, 23, 24, 25, 26, 27, 30, 31, 32, 33, 34, 35, 36, 37, 38, 39, 40, 41, 42, 43, 44, 45, 46, 47, 48, 100, 101, 102, 103, 104, 105, 106, 107, 108, 109, 110, 111, 112, 113, 114, 115, 116, 117, 118, 119, 120, 121, 122, 123, 124, 125, 126, 127, 128, 129, 130, 131, 132, 133, 134, 135, 136, 137] (by decide +kernel) (by decide +kernel)) (goodIn_sub (fun _ h => List.mem_cons_of_mem _ (List.mem_append_right _ h)) (by decide +kernel))
set_option maxRecDepth 20000 in
theorem gX12_goes_X12_chooses : GoodIn wsX12_goes (wsV RX12 190 RX12 yX12_chooses wsX12_chooses) := goodIn_app (goodIn_of _ (by decide +kernel)) ggX12_goes_X12_chooses
theorem dX12_goes_0 : decode cX12_goes 0 = .ok (.iload_n 1, 1) := by decide +kernel
theorem dX12_goes_1 : decode cX12_goes 1 = .ok (.aload_n 0, 1) := by decide +kernel
theorem dX12_goes_2 : decode cX12_goes 2 = .ok (.getfield 93, 3) := by decide +kernel
theorem dX12_goes_5 : decode cX12_goes 5 = .ok (.if_icmp .ne 164, 3) := by decide +kernel
theorem dX12_goes_8 : decode cX12_goes 8 = .ok (.iload_n 3, 1) := by decide +kernel
theorem dX12_goes_9 : decode cX12_goes 9 = .ok (.aload_n 0, 1) := by decide +kernel
theorem dX12_goes_10 : decode cX12_goes 10 = .ok (.iload_n 3, 1) := by decide +kernel
theorem dX12_goes_11 : decode cX12_goes 11 = .ok (.iload 4, 2) := by decide +kernel
theorem dX12_goes_13 : decode cX12_goes 13 = .ok (.iconst 0, 1) := by decide +kernel
theorem dX12_goes_14 : decode cX12_goes 14 = .ok (.invokevirtual 165, 3) := by decide +kernel
theorem dX12_goes_17 : decode cX12_goes 17 = .ok (.iadd, 1) := by decide +kernel
theorem dX12_goes_18 : decode cX12_goes 18 = .ok (.istore 5, 2) := by decide +kernel
theorem dX12_goes_20 : decode cX12_goes 20 = .ok (.iload 5, 2) := by decide +kernel
theorem dX12_goes_22 : decode cX12_goes 22 = .ok (.aload_n 0, 1) := by decide +kernel
theorem dX12_goes_23 : decode cX12_goes 23 = .ok (.getfield 169, 3) := by decide +kernel
theorem dX12_goes_26 : decode cX12_goes 26 = .ok (.if_icmp .le 142, 3) := by decide +kernel
theorem dX12_goes_29 : decode cX12_goes 29 = .ok (.aload_n 0, 1) := by decide +kernel
theorem dX12_goes_30 : decode cX12_goes 30 = .ok (.iload 5, 2) := by decide +kernel
theorem dX12_goes_32 : decode cX12_goes 32 = .ok (.putfield 169, 3) := by decide +kernel
theorem dX12_goes_35 : decode cX12_goes 35 = .ok (.aload_n 0, 1) := by decide +kernel
theorem dX12_goes_36 : decode cX12_goes 36 = .ok (.iload_n 3, 1) := by decide +kernel
theorem dX12_goes_37 : decode cX12_goes 37 = .ok (.putfield 172, 3) := by decide +kernel
theorem dX12_goes_40 : decode cX12_goes 40 = .ok (.aload_n 0, 1) := by decide +kernel
theorem dX12_goes_41 : decode cX12_goes 41 = .ok (.aload_n 0, 1) := by decide +kernel
theorem dX12_goes_42 : decode cX12_goes 42 = .ok (.getfield 175, 3) := by decide +kernel
theorem dX12_goes_45 : decode cX12_goes 45 = .ok (.putfield 178, 3) := by decide +kernel
theorem dX12_goes_48 : decode cX12_goes 48 = .ok (.iconst 0, 1) := by decide +kernel
theorem dX12_goes_49 : decode cX12_goes 49 = .ok (.istore 6, 2) := by decide +kernel
theorem dX12_goes_51 : decode cX12_goes 51 = .ok (.iload 6, 2) := by decide +kernel
theorem dX12_goes_53 : decode cX12_goes 53 = .ok (.aload_n 0, 1) := by decide +kernel
theorem dX12_goes_54 : decode cX12_goes 54 = .ok (.getfield 93, 3) := by decide +kernel
theorem dX12_goes_57 : decode cX12_goes 57 = .ok (.if_icmp .ge 23, 3) := by decide +kernel
theorem dX12_goes_60 : decode cX12_goes 60 = .ok (.aload_n 0, 1) := by decide +kernel
theorem dX12_goes_61 : decode cX12_goes 61 = .ok (.getfield 73, 3) := by decide +kernel
theorem dX12_goes_64 : decode cX12_goes 64 = .ok (.iload 6, 2) := by decide +kernel
theorem dX12_goes_66 : decode cX12_goes 66 = .ok (.aload_n 0, 1) := by decide +kernel
theorem dX12_goes_67 : decode cX12_goes 67 = .ok (.getfield 55, 3) := by decide +kernel
theorem dX12_goes_70 : decode cX12_goes 70 = .ok (.iload 6, 2) := by decide +kernel
theorem dX12_goes_72 : decode cX12_goes 72 = .ok (.iaload, 1) := by decide +kernel
theorem dX12_goes_73 : decode cX12_goes 73 = .ok (.iastore, 1) := by decide +kernel
theorem dX12_goes_74 : decode cX12_goes 74 = .ok (.iinc 6 1, 3) := by decide +kernel
theorem dX12_goes_77 : decode cX12_goes 77 = .ok (.goto (-26), 3) := by decide +kernel
theorem dX12_goes_80 : decode cX12_goes 80 = .ok (.iconst 0, 1) := by decide +kernel
theorem dX12_goes_81 : decode cX12_goes 81 = .ok (.istore 6, 2) := by decide +kernel
theorem dX12_goes_83 : decode cX12_goes 83 = .ok (.iload 6, 2) := by decide +kernel
theorem dX12_goes_85 : decode cX12_goes 85 = .ok (.aload_n 0, 1) := by decide +kernel
theorem dX12_goes_86 : decode cX12_goes 86 = .ok (.getfield 121, 3) := by decide +kernel
theorem dX12_goes_89 : decode cX12_goes 89 = .ok (.if_icmp .ge 23, 3) := by decide +kernel
theorem dX12_goes_92 : decode cX12_goes 92 = .ok (.aload_n 0, 1) := by decide +kernel
theorem dX12_goes_93 : decode cX12_goes 93 = .ok (.getfield 76, 3) := by decide +kernel
theorem dX12_goes_96 : decode cX12_goes 96 = .ok (.iload 6, 2) := by decide +kernel
theorem dX12_goes_98 : decode cX12_goes 98 = .ok (.aload_n 0, 1) := by decide +kernel
theorem dX12_goes_99 : decode cX12_goes 99 = .ok (.getfield 58, 3) := by decide +kernel
theorem dX12_goes_102 : decode cX12_goes 102 = .ok (.iload 6, 2) := by decide +kernel
theorem dX12_goes_104 : decode cX12_goes 104 = .ok (.iaload, 1) := by decide +kernel
theorem dX12_goes_105 : decode cX12_goes 105 = .ok (.iastore, 1) := by decide +kernel
theorem dX12_goes_106 : decode cX12_goes 106 = .ok (.iinc 6 1, 3) := by decide +kernel
theorem dX12_goes_109 : decode cX12_goes 109 = .ok (.goto (-26), 3) := by decide +kernel
theorem dX12_goes_112 : decode cX12_goes 112 = .ok (.iconst 0, 1) := by decide +kernel
theorem dX12_goes_113 : decode cX12_goes 113 = .ok (.istore 6, 2) := by decide +kernel
theorem dX12_goes_115 : decode cX12_goes 115 = .ok (.iload 6, 2) := by decide +kernel
theorem dX12_goes_117 : decode cX12_goes 117 = .ok (.aload_n 0, 1) := by decide +kernel
theorem dX12_goes_118 : decode cX12_goes 118 = .ok (.getfield 175, 3) := by decide +kernel
theorem dX12_goes_121 : decode cX12_goes 121 = .ok (.if_icmp .ge 37, 3) := by decide +kernel
theorem dX12_goes_124 : decode cX12_goes 124 = .ok (.aload_n 0, 1) := by decide +kernel
theorem dX12_goes_125 : decode cX12_goes 125 = .ok (.getfield 79, 3) := by decide +kernel
theorem dX12_goes_128 : decode cX12_goes 128 = .ok (.iload 6, 2) := by decide +kernel
theorem dX12_goes_130 : decode cX12_goes 130 = .ok (.aload_n 0, 1) := by decide +kernel
theorem dX12_goes_131 : decode cX12_goes 131 = .ok (.getfield 64, 3) := by decide +kernel
theorem dX12_goes_134 : decode cX12_goes 134 = .ok (.iload 6, 2) := by decide +kernel
theorem dX12_goes_136 : decode cX12_goes 136 = .ok (.iaload, 1) := by decide +kernel
theorem dX12_goes_137 : decode cX12_goes 137 = .ok (.iastore, 1) := by decide +kernel
theorem dX12_goes_138 : decode cX12_goes 138 = .ok (.aload_n 0, 1) := by decide +kernel
theorem dX12_goes_139 : decode cX12_goes 139 = .ok (.getfield 82, 3) := by decide +kernel
theorem dX12_goes_142 : decode cX12_goes 142 = .ok (.iload 6, 2) := by decide +kernel
theorem dX12_goes_144 : decode cX12_goes 144 = .ok (.aload_n 0, 1) := by decide +kernel
theorem dX12_goes_145 : decode cX12_goes 145 = .ok (.getfield 67, 3) := by decide +kernel
theorem dX12_goes_148 : decode cX12_goes 148 = .ok (.iload 6, 2) := by decide +kernel
theorem dX12_goes_150 : decode cX12_goes 150 = .ok (.iaload, 1) := by decide +kernel
theorem dX12_goes_151 : decode cX12_goes 151 = .ok (.iastore, 1) := by decide +kernel
theorem dX12_goes_152 : decode cX12_goes 152 = .ok (.iinc 6 1, 3) := by decide +kernel
theorem dX12_goes_155 : decode cX12_goes 155 = .ok (.goto (-40), 3) := by decide +kernel
theorem dX12_goes_158 : decode cX12_goes 158 = .ok (.aload_n 0, 1) := by decide +kernel
theorem dX12_goes_159 : decode cX12_goes 159 = .ok (.iload_n 3, 1) := by decide +kernel
theorem dX12_goes_160 : decode cX12_goes 160 = .ok (.iload 4, 2) := by decide +kernel
theorem dX12_goes_162 : decode cX12_goes 162 = .ok (.iconst 1, 1) := by decide +kernel
theorem dX12_goes_163 : decode cX12_goes 163 = .ok (.invokevirtual 165, 3) := by decide +kernel
theorem dX12_goes_166 : decode cX12_goes 166 = .ok (.istore 6, 2) := by decide +kernel
theorem dX12_goes_168 : decode cX12_goes 168 = .ok (.return_, 1) := by decide +kernel
theorem dX12_goes_169 : decode cX12_goes 169 = .ok (.iload_n 2, 1) := by decide +kernel
theorem dX12_goes_170 : decode cX12_goes 170 = .ok (.iload_n 1, 1) := by decide +kernel
theorem dX12_goes_171 : decode cX12_goes 171 = .ok (.ishr, 1) := by decide +kernel
theorem dX12_goes_172 : decode cX12_goes 172 = .ok (.iconst 1, 1) := by decide +kernel
theorem dX12_goes_173 : decode cX12_goes 173 = .ok (.iand, 1) := by decide +kernel
theorem dX12_goes_174 : decode cX12_goes 174 = .ok (.iconst 1, 1) := by decide +kernel
theorem dX12_goes_175 : decode cX12_goes 175 = .ok (.if_icmp .ne 15, 3) := by decide +kernel
theorem dX12_goes_178 : decode cX12_goes 178 = .ok (.aload_n 0, 1) := by decide +kernel
theorem dX12_goes_179 : decode cX12_goes 179 = .ok (.iload_n 1, 1) := by decide +kernel
theorem dX12_goes_180 : decode cX12_goes 180 = .ok (.iconst 1, 1) := by decide +kernel
theorem dX12_goes_181 : decode cX12_goes 181 = .ok (.iadd, 1) := by decide +kernel
theorem dX12_goes_182 : decode cX12_goes 182 = .ok (.iload_n 2, 1) := by decide +kernel
theorem dX12_goes_183 : decode cX12_goes 183 = .ok (.iload_n 3, 1) := by decide +kernel
theorem dX12_goes_184 : decode cX12_goes 184 = .ok (.iload 4, 2) := by decide +kernel
theorem dX12_goes_186 : decode cX12_goes 186 = .ok (.invokevirtual 181, 3) := by decide +kernel
theorem dX12_goes_189 : decode cX12_goes 189 = .ok (.return_, 1) := by decide +kernel
theorem dX12_goes_190 : decode cX12_goes 190 = .ok (.iload_n 3, 1) := by decide +kernel
theorem dX12_goes_191 : decode cX12_goes 191 = .ok (.aload_n 0, 1) := by decide +kernel
theorem dX12_goes_192 : decode cX12_goes 192 = .ok (.getfield 70, 3) := by decide +kernel
theorem dX12_goes_195 : decode cX12_goes 195 = .ok (.iload_n 1, 1) := by decide +kernel
theorem dX12_goes_196 : decode cX12_goes 196 = .ok (.iaload, 1) := by decide +kernel
theorem dX12_goes_197 : decode cX12_goes 197 = .ok (.iadd, 1) := by decide +kernel
theorem dX12_goes_198 : decode cX12_goes 198 = .ok (.aload_n 0, 1) := by decide +kernel
theorem dX12_goes_199 : decode cX12_goes 199 = .ok (.iload_n 3, 1) := by decide +kernel
theorem dX12_goes_200 : decode cX12_goes 200 = .ok (.iload 4, 2) := by decide +kernel
theorem dX12_goes_202 : decode cX12_goes 202 = .ok (.invokevirtual 185, 3) := by decide +kernel
theorem dX12_goes_205 : decode cX12_goes 205 = .ok (.iadd, 1) := by decide +kernel
theorem dX12_goes_206 : decode cX12_goes 206 = .ok (.aload_n 0, 1) := by decide +kernel
theorem dX12_goes_207 : decode cX12_goes 207 = .ok (.getfield 169, 3) := by decide +kernel
theorem dX12_goes_210 : decode cX12_goes 210 = .ok (.if_icmp .gt 4, 3) := by decide +kernel
theorem dX12_goes_213 : decode cX12_goes 213 = .ok (.return_, 1) := by decide +kernel
theorem dX12_goes_214 : decode cX12_goes 214 = .ok (.iconst 0, 1) := by decide +kernel
theorem dX12_goes_215 : decode cX12_goes 215 = .ok (.istore 5, 2) := by decide +kernel
theorem dX12_goes_217 : decode cX12_goes 217 = .ok (.iload 5, 2) := by decide +kernel
theorem dX12_goes_219 : decode cX12_goes 219 = .ok (.aload_n 0, 1) := by decide +kernel
theorem dX12_goes_220 : decode cX12_goes 220 = .ok (.getfield 121, 3) := by decide +kernel
theorem dX12_goes_223 : decode cX12_goes 223 = .ok (.if_icmp .ge 35, 3) := by decide +kernel
theorem dX12_goes_226 : decode cX12_goes 226 = .ok (.aload_n 0, 1) := by decide +kernel
theorem dX12_goes_227 : decode cX12_goes 227 = .ok (.iload 5, 2) := by decide +kernel
theorem dX12_goes_229 : decode cX12_goes 229 = .ok (.invokevirtual 187, 3) := by decide +kernel
theorem dX12_goes_232 : decode cX12_goes 232 = .ok (.ifCond .eq 20, 3) := by decide +kernel
theorem dX12_goes_235 : decode cX12_goes 235 = .ok (.aload_n 0, 1) := by decide +kernel
theorem dX12_goes_236 : decode cX12_goes 236 = .ok (.iload 5, 2) := by decide +kernel
theorem dX12_goes_238 : decode cX12_goes 238 = .ok (.iload_n 1, 1) := by decide +kernel
theorem dX12_goes_239 : decode cX12_goes 239 = .ok (.iconst 1, 1) := by decide +kernel
theorem dX12_goes_240 : decode cX12_goes 240 = .ok (.iload_n 1, 1) := by decide +kernel
theorem dX12_goes_241 : decode cX12_goes 241 = .ok (.ishl, 1) := by decide +kernel
theorem dX12_goes_242 : decode cX12_goes 242 = .ok (.iload_n 1, 1) := by decide +kernel
theorem dX12_goes_243 : decode cX12_goes 243 = .ok (.iconst 1, 1) := by decide +kernel
theorem dX12_goes_244 : decode cX12_goes 244 = .ok (.iadd, 1) := by decide +kernel
theorem dX12_goes_245 : decode cX12_goes 245 = .ok (.iload_n 2, 1) := by decide +kernel
theorem dX12_goes_246 : decode cX12_goes 246 = .ok (.iload_n 3, 1) := by decide +kernel
theorem dX12_goes_247 : decode cX12_goes 247 = .ok (.iload 4, 2) := by decide +kernel
theorem dX12_goes_249 : decode cX12_goes 249 = .ok (.invokevirtual 190, 3) := by decide +kernel
theorem dX12_goes_252 : decode cX12_goes 252 = .ok (.iinc 5 1, 3) := by decide +kernel
theorem dX12_goes_255 : decode cX12_goes 255 = .ok (.goto (-38), 3) := by decide +kernel
theorem dX12_goes_258 : decode cX12_goes 258 = .ok (.aload_n 0, 1) := by decide +kernel
theorem dX12_goes_259 : decode cX12_goes 259 = .ok (.getfield 55, 3) := by decide +kernel
theorem dX12_goes_262 : decode cX12_goes 262 = .ok (.iload_n 1, 1) := by decide +kernel
theorem dX12_goes_263 : decode cX12_goes 263 = .ok (.iconst (-1), 1) := by decide +kernel
theorem dX12_goes_264 : decode cX12_goes 264 = .ok (.iastore, 1) := by decide +kernel
theorem dX12_goes_265 : decode cX12_goes 265 = .ok (.aload_n 0, 1) := by decide +kernel
theorem dX12_goes_266 : decode cX12_goes 266 = .ok (.iload_n 1, 1) := by decide +kernel
theorem dX12_goes_267 : decode cX12_goes 267 = .ok (.iconst 1, 1) := by decide +kernel
theorem dX12_goes_268 : decode cX12_goes 268 = .ok (.iadd, 1) := by decide +kernel
theorem dX12_goes_269 : decode cX12_goes 269 = .ok (.iload_n 2, 1) := by decide +kernel
theorem dX12_goes_270 : decode cX12_goes 270 = .ok (.iload_n 3, 1) := by decide +kernel
theorem dX12_goes_271 : decode cX12_goes 271 = .ok (.iload 4, 2) := by decide +kernel
theorem dX12_goes_273 : decode cX12_goes 273 = .ok (.invokevirtual 181, 3) := by decide +kernel
theorem dX12_goes_276 : decode cX12_goes 276 = .ok (.return_, 1) := by decide +kernel
set_option maxRecDepth 20000 in
theorem ggX12_chooses_J6_bitCount_0f7a4 : GoodIn wsX12_chooses wsJ6_bitCount_0f7a4 := goodIn_r _ [5, 6, 7, 8] (by decide +kernel) (by decide +kernel)
set_option maxRecDepth 20000 in
theorem gX12_chooses_J6_bitCount_0f7a4 : GoodIn wsX12_chooses (va_wsS RX12 135 yJ6_bitCount_0f7a4 wsJ6_bitCount_0f7a4) := goodIn_app (goodIn_of _ (by decide +kernel)) ggX12_chooses_J6_bitCount_0f7a4
set_option maxRecDepth 20000 in
theorem ggX12_chooses_X12_sizeOf : GoodIn wsX12_chooses wsX12_sizeOf := goodIn_ca (goodIn_r _ [13, 14, 15, 16, 101, 102, 103, 104, 105, 106, 107, 108, 109, 110, 111, 112, 113, 114, 115, 116, 117, 118, 119, 120, 121, 122, 123, 124, 125, 126, 127, 128, 129, 130, 131, 132, 133, 134, 135, 136, 137] (by decide +kernel) (by decide +kernel)) (goodIn_sub (fun _ h => List.mem_cons_of_mem _ (List.mem_append_right _ h)) (by decide +kernel))
set_option maxRecDepth 20000 in
theorem gX12_chooses_X12_sizeOf : GoodIn wsX12_chooses (wsV RX12 132 RX12 yX12_sizeOf wsX12_sizeOf) := goodIn_app (goodIn_of _ (by decide +kernel)) ggX12_chooses_X12_sizeOf
set_option maxRecDepth 20000 in
theorem ggX12_chooses_X12_isGood : GoodIn wsX12_chooses wsX12_isGood := goodIn_ca (goodIn_r _ [20, 14, 21, 22, 23, 12, 24, 1, 2, 3, 4, 5, 6, 7, 8, 9, 10, 11, 13, 15, 16, 25, 26, 27, 28, 29, 30, 31, 32, 33, 34, 35, 36, 37, 38, 39, 40, 41, 42, 43, 44, 45, 46, 47, 48, 49, 101, 102, 103, 104, 105, 106, 107, 108, 109, 110, 111, 112, 113, 114, 115, 116, 117, 118, 119, 120, 121, 122, 123, 124, 125, 126, 127, 128, 129, 130, 131, 132, 133, 134, 135, 136, 137] (by decide +kernel) (by decide +kernel)) (goodIn_sub (fun _ h => List.mem_cons_of_mem _ (List.mem_append_right _ h)) (by decide +kernel))
set_option maxRecDepth 20000 in
theorem gX12_chooses_X12_isGood : GoodIn wsX12_chooses (wsV RX12 194 RX12 yX12_isGood wsX12_isGood) := goodIn_app (goodIn_of _ (by decide +kernel)) ggX12_chooses_X12_isGood
set_option maxRecDepth 20000 in
theorem ggX12_chooses_X12_takes : GoodIn wsX12_chooses wsX12_takes := goodIn_ca (goodIn_r _ [100, 75, 81, 1, 62, 59, 67, 69, 65, 36, 37, 38, 12, 39, 40, 41, 42, 43, 14, 15, 44, 45, 46, 47, 48, 49, 30, 89, 90, 91, 0, 2, 3, 4, 5, 6, 7, 8, 9, 10, 11, 13, 16, 17, 18, 19, 20, 21, 22, 23, 24, 25, 26, 27, 28, 29, 31, 32, 33, 34, 35, 50, 51, 52, 53, 54, 55, 56, 57, 58, 60, 61, 63, 64, 66, 68, 70, 71, 72, 73, 74, 76, 77, 78, 79, 80, 82, 83, 84, 85, 86, 87, 88, 92, 93, 94, 95, 96, 97, 98, 99, 101, 102, 103, 104, 105, 106, 107, 108, 109, 110, 111, 112, 113, 114, 115, 116, 117, 118, 119, 120, 121, 122, 123, 124, 125, 126, 127, 128, 129, 130, 131, 132, 133, 134, 135, 136, 137] (by decide +kernel) (by decide +kernel)) (goodIn_sub (fun _ h => List.mem_cons_of_mem _ (List.mem_append_right _ h)) (by decide +kernel))
set_option maxRecDepth 20000 in
theorem gX12_chooses_X12_takes : GoodIn wsX12_chooses (wsV RX12 197 RX12 yX12_takes wsX12_takes) := goodIn_app (goodIn_of _ (by decide +kernel)) ggX12_chooses_X12_takes
set_option maxRecDepth 20000 in
theorem ggX12_chooses_X12_chooses : GoodIn wsX12_chooses wsX12_chooses := goodIn_ca (goodIn_r _ [0, 1, 2, 3, 4, 5, 6, 7, 8, 9, 10, 11, 12, 13, 14, 15, 16, 17, 18, 19, 20, 21, 22, 23, 24, 25, 26, 27, 28, 29, 30, 31, 32, 33, 34, 35, 36, 37, 38, 39, 40, 41, 42, 43, 44, 45, 46, 47, 48, 49, 50, 51, 52, 53, 54, 55, 56, 57, 58, 59, 60, 61, 62, 63, 64, 65, 66, 67, 68, 69, 70, 71, 72, 73, 74, 75, 76, 77, 78, 79, 80, 81, 82, 83, 84, 85, 86, 87, 88, 89, 90, 91, 92, 93, 94, 95, 96, 97, 98, 99, 100, 101, 102, 103, 104, 105, 106, 107, 108, 109, 110, 111, 112, 113, 114, 115, 116, 117, 118, 119, 120, 121, 122, 123, 124, 125, 126, 127, 128, 129, 130, 131, 132, 133, 134, 135, 136, 137] (by decide +kernel) (by decide +kernel)) (goodIn_sub (fun _ h => List.mem_cons_of_mem _ (List.mem_append_right _ h)) (by decide +kernel))
set_option maxRecDepth 20000 in
theorem gX12_chooses_X12_chooses : GoodIn wsX12_chooses (wsV RX12 190 RX12 yX12_chooses wsX12_chooses) := goodIn_app (goodIn_of _ (by decide +kernel)) ggX12_chooses_X12_chooses
theorem dX12_chooses_0 : decode cX12_chooses 0 = .ok (.iload_n 3, 1) := by decide +kernel
theorem dX12_chooses_1 : decode cX12_chooses 1 = .ok (.invokestatic 135, 3) := by decide +kernel
theorem dX12_chooses_4 : decode cX12_chooses 4 = .ok (.aload_n 0, 1) := by decide +kernel
theorem dX12_chooses_5 : decode cX12_chooses 5 = .ok (.iload_n 1, 1) := by decide +kernel
theorem dX12_chooses_6 : decode cX12_chooses 6 = .ok (.invokevirtual 132, 3) := by decide +kernel
theorem dX12_chooses_9 : decode cX12_chooses 9 = .ok (.if_icmp .ne 26, 3) := by decide +kernel
theorem dX12_chooses_12 : decode cX12_chooses 12 = .ok (.aload_n 0, 1) := by decide +kernel
theorem dX12_chooses_13 : decode cX12_chooses 13 = .ok (.iload_n 1, 1) := by decide +kernel
theorem dX12_chooses_14 : decode cX12_chooses 14 = .ok (.iload_n 3, 1) := by decide +kernel
theorem dX12_chooses_15 : decode cX12_chooses 15 = .ok (.invokevirtual 194, 3) := by decide +kernel
theorem dX12_chooses_18 : decode cX12_chooses 18 = .ok (.ifCond .eq 16, 3) := by decide +kernel
theorem dX12_chooses_21 : decode cX12_chooses 21 = .ok (.aload_n 0, 1) := by decide +kernel
theorem dX12_chooses_22 : decode cX12_chooses 22 = .ok (.iload_n 1, 1) := by decide +kernel
theorem dX12_chooses_23 : decode cX12_chooses 23 = .ok (.iload_n 2, 1) := by decide +kernel
theorem dX12_chooses_24 : decode cX12_chooses 24 = .ok (.iload_n 3, 1) := by decide +kernel
theorem dX12_chooses_25 : decode cX12_chooses 25 = .ok (.iload 5, 2) := by decide +kernel
theorem dX12_chooses_27 : decode cX12_chooses 27 = .ok (.iload 6, 2) := by decide +kernel
theorem dX12_chooses_29 : decode cX12_chooses 29 = .ok (.iload 7, 2) := by decide +kernel
theorem dX12_chooses_31 : decode cX12_chooses 31 = .ok (.invokevirtual 197, 3) := by decide +kernel
theorem dX12_chooses_34 : decode cX12_chooses 34 = .ok (.return_, 1) := by decide +kernel
theorem dX12_chooses_35 : decode cX12_chooses 35 = .ok (.iload 4, 2) := by decide +kernel
theorem dX12_chooses_37 : decode cX12_chooses 37 = .ok (.istore 8, 2) := by decide +kernel
theorem dX12_chooses_39 : decode cX12_chooses 39 = .ok (.iload 8, 2) := by decide +kernel
theorem dX12_chooses_41 : decode cX12_chooses 41 = .ok (.aload_n 0, 1) := by decide +kernel
theorem dX12_chooses_42 : decode cX12_chooses 42 = .ok (.getfield 93, 3) := by decide +kernel
theorem dX12_chooses_45 : decode cX12_chooses 45 = .ok (.if_icmp .ge 41, 3) := by decide +kernel
theorem dX12_chooses_48 : decode cX12_chooses 48 = .ok (.iload 5, 2) := by decide +kernel
theorem dX12_chooses_50 : decode cX12_chooses 50 = .ok (.iload 8, 2) := by decide +kernel
theorem dX12_chooses_52 : decode cX12_chooses 52 = .ok (.ishr, 1) := by decide +kernel
theorem dX12_chooses_53 : decode cX12_chooses 53 = .ok (.iconst 1, 1) := by decide +kernel
theorem dX12_chooses_54 : decode cX12_chooses 54 = .ok (.iand, 1) := by decide +kernel
theorem dX12_chooses_55 : decode cX12_chooses 55 = .ok (.ifCond .ne 25, 3) := by decide +kernel
theorem dX12_chooses_58 : decode cX12_chooses 58 = .ok (.aload_n 0, 1) := by decide +kernel
theorem dX12_chooses_59 : decode cX12_chooses 59 = .ok (.iload_n 1, 1) := by decide +kernel
theorem dX12_chooses_60 : decode cX12_chooses 60 = .ok (.iload_n 2, 1) := by decide +kernel
theorem dX12_chooses_61 : decode cX12_chooses 61 = .ok (.iload_n 3, 1) := by decide +kernel
theorem dX12_chooses_62 : decode cX12_chooses 62 = .ok (.iconst 1, 1) := by decide +kernel
theorem dX12_chooses_63 : decode cX12_chooses 63 = .ok (.iload 8, 2) := by decide +kernel
theorem dX12_chooses_65 : decode cX12_chooses 65 = .ok (.ishl, 1) := by decide +kernel
theorem dX12_chooses_66 : decode cX12_chooses 66 = .ok (.ior, 1) := by decide +kernel
theorem dX12_chooses_67 : decode cX12_chooses 67 = .ok (.iload 8, 2) := by decide +kernel
theorem dX12_chooses_69 : decode cX12_chooses 69 = .ok (.iconst 1, 1) := by decide +kernel
theorem dX12_chooses_70 : decode cX12_chooses 70 = .ok (.iadd, 1) := by decide +kernel
theorem dX12_chooses_71 : decode cX12_chooses 71 = .ok (.iload 5, 2) := by decide +kernel
theorem dX12_chooses_73 : decode cX12_chooses 73 = .ok (.iload 6, 2) := by decide +kernel
theorem dX12_chooses_75 : decode cX12_chooses 75 = .ok (.iload 7, 2) := by decide +kernel
theorem dX12_chooses_77 : decode cX12_chooses 77 = .ok (.invokevirtual 190, 3) := by decide +kernel
theorem dX12_chooses_80 : decode cX12_chooses 80 = .ok (.iinc 8 1, 3) := by decide +kernel
theorem dX12_chooses_83 : decode cX12_chooses 83 = .ok (.goto (-44), 3) := by decide +kernel
theorem dX12_chooses_86 : decode cX12_chooses 86 = .ok (.return_, 1) := by decide +kernel
set_option maxRecDepth 20000 in
theorem ggX12_takes_X12_discount : GoodIn wsX12_takes wsX12_discount := goodIn_ca (goodIn_r _ [13, 3, 14, 15, 16, 17, 18, 19, 20, 21, 22, 23, 12, 24, 25, 26, 101, 102, 103, 104, 105, 106, 107, 108, 109, 110, 111, 112, 113, 114, 115, 116, 117, 118, 119, 120, 121, 122, 123, 124, 125, 126, 127, 128, 129, 130, 131, 132, 133, 134, 135, 136, 137] (by decide +kernel) (by decide +kernel)) (goodIn_sub (fun _ h => List.mem_cons_of_mem _ (List.mem_append_right _ h)) (by decide +kernel))
set_option maxRecDepth 20000 in
theorem gX12_takes_X12_discount : GoodIn wsX12_takes (wsV RX12 159 RX12 yX12_discount wsX12_discount) := goodIn_app (goodIn_of _ (by decide +kernel)) ggX12_takes_X12_discount
set_option maxRecDepth 20000 in
theorem ggX12_takes_X12_goes : GoodIn wsX12_takes wsX12_goes := goodIn_ca (goodIn_r _ [67, 3, 68, 69, 5, 70, 71, 4, 72, 73, 8, 74, 6, 75, 7, 76, 77, 78, 79, 12, 80, 1, 19, 81, 82, 83, 84, 85, 18, 60, 2, 86, 87, 88, 89, 90, 91, 92, 27, 28, 29, 93, 94, 95, 96, 97, 98, 99, 100, 64, 65, 66, 30, 31, 32, 33, 34, 35, 36, 37, 38, 39, 40, 41, 42, 43, 44, 45, 46, 47, 48, 49, 50, 51, 52, 53, 54, 55, 26, 56, 57, 58, 59, 9, 10, 11, 13, 14, 15, 16, 17, 20, 21, 22, 23, 24, 25, 61, 62, 63, 0, 101, 102, 103, 104, 105, 106, 107, 108, 109, 110, 111, 112, 113, 114, 115, 116, 117, 118, 119, 120, 121, 122, 123, 124, 125, 126, 127, 128, 129, 130, 131, 132, 133, 134, 135, 136, 137] (by decide +kernel) (by decide +kernel)) (goodIn_sub (fun _ h => List.mem_cons_of_mem _ (List.mem_append_right _ h)) (by decide +kernel))
set_option maxRecDepth 20000 in
theorem gX12_takes_X12_goes : GoodIn wsX12_takes (wsV RX12 181 RX12 yX12_goes wsX12_goes) := goodIn_app (goodIn_of _ (by decide +kernel)) ggX12_takes_X12_goes
theorem dX12_takes_0 : decode cX12_takes 0 = .ok (.aload_n 0, 1) := by decide +kernel
theorem dX12_takes_1 : decode cX12_takes 1 = .ok (.iload_n 1, 1) := by decide +kernel
theorem dX12_takes_2 : decode cX12_takes 2 = .ok (.iload_n 3, 1) := by decide +kernel
theorem dX12_takes_3 : decode cX12_takes 3 = .ok (.invokevirtual 159, 3) := by decide +kernel
theorem dX12_takes_6 : decode cX12_takes 6 = .ok (.istore 7, 2) := by decide +kernel
theorem dX12_takes_8 : decode cX12_takes 8 = .ok (.aload_n 0, 1) := by decide +kernel
theorem dX12_takes_9 : decode cX12_takes 9 = .ok (.getfield 44, 3) := by decide +kernel
theorem dX12_takes_12 : decode cX12_takes 12 = .ok (.iload_n 1, 1) := by decide +kernel
theorem dX12_takes_13 : decode cX12_takes 13 = .ok (.iaload, 1) := by decide +kernel
theorem dX12_takes_14 : decode cX12_takes 14 = .ok (.iconst (-1), 1) := by decide +kernel
theorem dX12_takes_15 : decode cX12_takes 15 = .ok (.if_icmp .ne 7, 3) := by decide +kernel
theorem dX12_takes_18 : decode cX12_takes 18 = .ok (.iconst (-1), 1) := by decide +kernel
theorem dX12_takes_19 : decode cX12_takes 19 = .ok (.goto 14, 3) := by decide +kernel
theorem dX12_takes_22 : decode cX12_takes 22 = .ok (.aload_n 0, 1) := by decide +kernel
theorem dX12_takes_23 : decode cX12_takes 23 = .ok (.getfield 61, 3) := by decide +kernel
theorem dX12_takes_26 : decode cX12_takes 26 = .ok (.aload_n 0, 1) := by decide +kernel
theorem dX12_takes_27 : decode cX12_takes 27 = .ok (.getfield 44, 3) := by decide +kernel
theorem dX12_takes_30 : decode cX12_takes 30 = .ok (.iload_n 1, 1) := by decide +kernel
theorem dX12_takes_31 : decode cX12_takes 31 = .ok (.iaload, 1) := by decide +kernel
theorem dX12_takes_32 : decode cX12_takes 32 = .ok (.iaload, 1) := by decide +kernel
theorem dX12_takes_33 : decode cX12_takes 33 = .ok (.istore 8, 2) := by decide +kernel
theorem dX12_takes_35 : decode cX12_takes 35 = .ok (.iconst 0, 1) := by decide +kernel
theorem dX12_takes_36 : decode cX12_takes 36 = .ok (.istore 9, 2) := by decide +kernel
theorem dX12_takes_38 : decode cX12_takes 38 = .ok (.iload 9, 2) := by decide +kernel
theorem dX12_takes_40 : decode cX12_takes 40 = .ok (.aload_n 0, 1) := by decide +kernel
theorem dX12_takes_41 : decode cX12_takes 41 = .ok (.getfield 93, 3) := by decide +kernel
theorem dX12_takes_44 : decode cX12_takes 44 = .ok (.if_icmp .ge 40, 3) := by decide +kernel
theorem dX12_takes_47 : decode cX12_takes 47 = .ok (.aload_n 0, 1) := by decide +kernel
theorem dX12_takes_48 : decode cX12_takes 48 = .ok (.getfield 55, 3) := by decide +kernel
theorem dX12_takes_51 : decode cX12_takes 51 = .ok (.iload 9, 2) := by decide +kernel
theorem dX12_takes_53 : decode cX12_takes 53 = .ok (.iload_n 3, 1) := by decide +kernel
theorem dX12_takes_54 : decode cX12_takes 54 = .ok (.iload 9, 2) := by decide +kernel
theorem dX12_takes_56 : decode cX12_takes 56 = .ok (.ishr, 1) := by decide +kernel
theorem dX12_takes_57 : decode cX12_takes 57 = .ok (.iconst 1, 1) := by decide +kernel
theorem dX12_takes_58 : decode cX12_takes 58 = .ok (.iand, 1) := by decide +kernel
theorem dX12_takes_59 : decode cX12_takes 59 = .ok (.iconst 1, 1) := by decide +kernel
theorem dX12_takes_60 : decode cX12_takes 60 = .ok (.if_icmp .ne 10, 3) := by decide +kernel
theorem dX12_takes_63 : decode cX12_takes 63 = .ok (.aload_n 0, 1) := by decide +kernel
theorem dX12_takes_64 : decode cX12_takes 64 = .ok (.getfield 175, 3) := by decide +kernel
theorem dX12_takes_67 : decode cX12_takes 67 = .ok (.goto 10, 3) := by decide +kernel
theorem dX12_takes_70 : decode cX12_takes 70 = .ok (.aload_n 0, 1) := by decide +kernel
theorem dX12_takes_71 : decode cX12_takes 71 = .ok (.getfield 55, 3) := by decide +kernel
theorem dX12_takes_74 : decode cX12_takes 74 = .ok (.iload 9, 2) := by decide +kernel
theorem dX12_takes_76 : decode cX12_takes 76 = .ok (.iaload, 1) := by decide +kernel
theorem dX12_takes_77 : decode cX12_takes 77 = .ok (.iastore, 1) := by decide +kernel
theorem dX12_takes_78 : decode cX12_takes 78 = .ok (.iinc 9 1, 3) := by decide +kernel
theorem dX12_takes_81 : decode cX12_takes 81 = .ok (.goto (-43), 3) := by decide +kernel
theorem dX12_takes_84 : decode cX12_takes 84 = .ok (.aload_n 0, 1) := by decide +kernel
theorem dX12_takes_85 : decode cX12_takes 85 = .ok (.getfield 64, 3) := by decide +kernel
theorem dX12_takes_88 : decode cX12_takes 88 = .ok (.aload_n 0, 1) := by decide +kernel
theorem dX12_takes_89 : decode cX12_takes 89 = .ok (.getfield 175, 3) := by decide +kernel
theorem dX12_takes_92 : decode cX12_takes 92 = .ok (.iload_n 1, 1) := by decide +kernel
theorem dX12_takes_93 : decode cX12_takes 93 = .ok (.iastore, 1) := by decide +kernel
theorem dX12_takes_94 : decode cX12_takes 94 = .ok (.aload_n 0, 1) := by decide +kernel
theorem dX12_takes_95 : decode cX12_takes 95 = .ok (.getfield 67, 3) := by decide +kernel
theorem dX12_takes_98 : decode cX12_takes 98 = .ok (.aload_n 0, 1) := by decide +kernel
theorem dX12_takes_99 : decode cX12_takes 99 = .ok (.getfield 175, 3) := by decide +kernel
theorem dX12_takes_102 : decode cX12_takes 102 = .ok (.iload 7, 2) := by decide +kernel
theorem dX12_takes_104 : decode cX12_takes 104 = .ok (.iastore, 1) := by decide +kernel
theorem dX12_takes_105 : decode cX12_takes 105 = .ok (.aload_n 0, 1) := by decide +kernel
theorem dX12_takes_106 : decode cX12_takes 106 = .ok (.dup, 1) := by decide +kernel
theorem dX12_takes_107 : decode cX12_takes 107 = .ok (.getfield 175, 3) := by decide +kernel
theorem dX12_takes_110 : decode cX12_takes 110 = .ok (.iconst 1, 1) := by decide +kernel
theorem dX12_takes_111 : decode cX12_takes 111 = .ok (.iadd, 1) := by decide +kernel
theorem dX12_takes_112 : decode cX12_takes 112 = .ok (.putfield 175, 3) := by decide +kernel
theorem dX12_takes_115 : decode cX12_takes 115 = .ok (.aload_n 0, 1) := by decide +kernel
theorem dX12_takes_116 : decode cX12_takes 116 = .ok (.getfield 58, 3) := by decide +kernel
theorem dX12_takes_119 : decode cX12_takes 119 = .ok (.iload_n 1, 1) := by decide +kernel
theorem dX12_takes_120 : decode cX12_takes 120 = .ok (.dup2, 1) := by decide +kernel
theorem dX12_takes_121 : decode cX12_takes 121 = .ok (.iaload, 1) := by decide +kernel
theorem dX12_takes_122 : decode cX12_takes 122 = .ok (.iconst 1, 1) := by decide +kernel
theorem dX12_takes_123 : decode cX12_takes 123 = .ok (.iadd, 1) := by decide +kernel
theorem dX12_takes_124 : decode cX12_takes 124 = .ok (.iastore, 1) := by decide +kernel
theorem dX12_takes_125 : decode cX12_takes 125 = .ok (.aload_n 0, 1) := by decide +kernel
theorem dX12_takes_126 : decode cX12_takes 126 = .ok (.getfield 44, 3) := by decide +kernel
theorem dX12_takes_129 : decode cX12_takes 129 = .ok (.iload_n 1, 1) := by decide +kernel
theorem dX12_takes_130 : decode cX12_takes 130 = .ok (.iaload, 1) := by decide +kernel
theorem dX12_takes_131 : decode cX12_takes 131 = .ok (.iconst (-1), 1) := by decide +kernel
theorem dX12_takes_132 : decode cX12_takes 132 = .ok (.if_icmp .eq 15, 3) := by decide +kernel
theorem dX12_takes_135 : decode cX12_takes 135 = .ok (.aload_n 0, 1) := by decide +kernel
theorem dX12_takes_136 : decode cX12_takes 136 = .ok (.getfield 61, 3) := by decide +kernel
theorem dX12_takes_139 : decode cX12_takes 139 = .ok (.aload_n 0, 1) := by decide +kernel
theorem dX12_takes_140 : decode cX12_takes 140 = .ok (.getfield 44, 3) := by decide +kernel
theorem dX12_takes_143 : decode cX12_takes 143 = .ok (.iload_n 1, 1) := by decide +kernel
theorem dX12_takes_144 : decode cX12_takes 144 = .ok (.iaload, 1) := by decide +kernel
theorem dX12_takes_145 : decode cX12_takes 145 = .ok (.iload_n 1, 1) := by decide +kernel
theorem dX12_takes_146 : decode cX12_takes 146 = .ok (.iastore, 1) := by decide +kernel
theorem dX12_takes_147 : decode cX12_takes 147 = .ok (.aload_n 0, 1) := by decide +kernel
theorem dX12_takes_148 : decode cX12_takes 148 = .ok (.iload_n 2, 1) := by decide +kernel
theorem dX12_takes_149 : decode cX12_takes 149 = .ok (.iconst 1, 1) := by decide +kernel
theorem dX12_takes_150 : decode cX12_takes 150 = .ok (.iadd, 1) := by decide +kernel
theorem dX12_takes_151 : decode cX12_takes 151 = .ok (.iload 4, 2) := by decide +kernel
theorem dX12_takes_153 : decode cX12_takes 153 = .ok (.iload_n 3, 1) := by decide +kernel
theorem dX12_takes_154 : decode cX12_takes 154 = .ok (.ior, 1) := by decide +kernel
theorem dX12_takes_155 : decode cX12_takes 155 = .ok (.iload 5, 2) := by decide +kernel
theorem dX12_takes_157 : decode cX12_takes 157 = .ok (.iload 7, 2) := by decide +kernel
theorem dX12_takes_159 : decode cX12_takes 159 = .ok (.iadd, 1) := by decide +kernel
theorem dX12_takes_160 : decode cX12_takes 160 = .ok (.iload 6, 2) := by decide +kernel
theorem dX12_takes_162 : decode cX12_takes 162 = .ok (.invokevirtual 181, 3) := by decide +kernel
theorem dX12_takes_165 : decode cX12_takes 165 = .ok (.aload_n 0, 1) := by decide +kernel
theorem dX12_takes_166 : decode cX12_takes 166 = .ok (.dup, 1) := by decide +kernel
theorem dX12_takes_167 : decode cX12_takes 167 = .ok (.getfield 175, 3) := by decide +kernel
theorem dX12_takes_170 : decode cX12_takes 170 = .ok (.iconst 1, 1) := by decide +kernel
theorem dX12_takes_171 : decode cX12_takes 171 = .ok (.isub, 1) := by decide +kernel
theorem dX12_takes_172 : decode cX12_takes 172 = .ok (.putfield 175, 3) := by decide +kernel
theorem dX12_takes_175 : decode cX12_takes 175 = .ok (.aload_n 0, 1) := by decide +kernel
theorem dX12_takes_176 : decode cX12_takes 176 = .ok (.getfield 58, 3) := by decide +kernel
theorem dX12_takes_179 : decode cX12_takes 179 = .ok (.iload_n 1, 1) := by decide +kernel
theorem dX12_takes_180 : decode cX12_takes 180 = .ok (.dup2, 1) := by decide +kernel
theorem dX12_takes_181 : decode cX12_takes 181 = .ok (.iaload, 1) := by decide +kernel
theorem dX12_takes_182 : decode cX12_takes 182 = .ok (.iconst 1, 1) := by decide +kernel
theorem dX12_takes_183 : decode cX12_takes 183 = .ok (.isub, 1) := by decide +kernel
theorem dX12_takes_184 : decode cX12_takes 184 = .ok (.iastore, 1) := by decide +kernel
theorem dX12_takes_185 : decode cX12_takes 185 = .ok (.aload_n 0, 1) := by decide +kernel
theorem dX12_takes_186 : decode cX12_takes 186 = .ok (.getfield 44, 3) := by decide +kernel
theorem dX12_takes_189 : decode cX12_takes 189 = .ok (.iload_n 1, 1) := by decide +kernel
theorem dX12_takes_190 : decode cX12_takes 190 = .ok (.iaload, 1) := by decide +kernel
theorem dX12_takes_191 : decode cX12_takes 191 = .ok (.iconst (-1), 1) := by decide +kernel
theorem dX12_takes_192 : decode cX12_takes 192 = .ok (.if_icmp .eq 16, 3) := by decide +kernel
theorem dX12_takes_195 : decode cX12_takes 195 = .ok (.aload_n 0, 1) := by decide +kernel
theorem dX12_takes_196 : decode cX12_takes 196 = .ok (.getfield 61, 3) := by decide +kernel
theorem dX12_takes_199 : decode cX12_takes 199 = .ok (.aload_n 0, 1) := by decide +kernel
theorem dX12_takes_200 : decode cX12_takes 200 = .ok (.getfield 44, 3) := by decide +kernel
theorem dX12_takes_203 : decode cX12_takes 203 = .ok (.iload_n 1, 1) := by decide +kernel
theorem dX12_takes_204 : decode cX12_takes 204 = .ok (.iaload, 1) := by decide +kernel
theorem dX12_takes_205 : decode cX12_takes 205 = .ok (.iload 8, 2) := by decide +kernel
theorem dX12_takes_207 : decode cX12_takes 207 = .ok (.iastore, 1) := by decide +kernel
theorem dX12_takes_208 : decode cX12_takes 208 = .ok (.return_, 1) := by decide +kernel
set_option maxRecDepth 20000 in
theorem ggX12_hope_X12_leftOf : GoodIn wsX12_hope wsX12_leftOf := goodIn_ca (goodIn_r _ [13, 14, 15, 16, 62, 63, 64, 65, 66, 67, 68, 69, 70, 71, 72, 73, 74, 75, 76, 77, 78, 79, 80, 81, 82, 83, 84, 85, 86, 87, 88, 89, 90, 91, 92, 93, 94, 95, 96, 97, 98] (by decide +kernel) (by decide +kernel)) (goodIn_sub (fun _ h => List.mem_cons_of_mem _ (List.mem_append_right _ h)) (by decide +kernel))
set_option maxRecDepth 20000 in
theorem gX12_hope_X12_leftOf : GoodIn wsX12_hope (wsV RX12 128 RX12 yX12_leftOf wsX12_leftOf) := goodIn_app (goodIn_of _ (by decide +kernel)) ggX12_hope_X12_leftOf
set_option maxRecDepth 20000 in
theorem ggX12_hope_X12_isGood : GoodIn wsX12_hope wsX12_isGood := goodIn_ca (goodIn_r _ [20, 4, 21, 22, 23, 12, 24, 2, 25, 26, 27, 28, 29, 30, 31, 32, 33, 34, 35, 36, 37, 38, 39, 40, 41, 42, 43, 44, 45, 46, 47, 48, 49, 50, 51, 52, 53, 54, 7, 55, 56, 57, 58, 59, 60, 61, 62, 63, 64, 65, 66, 67, 68, 69, 70, 71, 72, 73, 74, 75, 76, 77, 78, 79, 80, 81, 82, 83, 84, 85, 86, 87, 88, 89, 90, 91, 92, 93, 94, 95, 96, 97, 98] (by decide +kernel) (by decide +kernel)) (goodIn_sub (fun _ h => List.mem_cons_of_mem _ (List.mem_append_right _ h)) (by decide +kernel))
set_option maxRecDepth 20000 in
theorem gX12_hope_X12_isGood : GoodIn wsX12_hope (wsV RX12 194 RX12 yX12_isGood wsX12_isGood) := goodIn_app (goodIn_of _ (by decide +kernel)) ggX12_hope_X12_isGood
set_option maxRecDepth 20000 in
theorem ggX12_hope_X12_discount : GoodIn wsX12_hope wsX12_discount := goodIn_ca (goodIn_r _ [52, 2, 53, 54, 7, 55, 4, 36, 56, 57, 58, 59, 12, 60, 61, 43, 62, 63, 64, 65, 66, 67, 68, 69, 70, 71, 72, 73, 74, 75, 76, 77, 78, 79, 80, 81, 82, 83, 84, 85, 86, 87, 88, 89, 90, 91, 92, 93, 94, 95, 96, 97, 98] (by decide +kernel) (by decide +kernel)) (goodIn_sub (fun _ h => List.mem_cons_of_mem _ (List.mem_append_right _ h)) (by decide +kernel))
set_option maxRecDepth 20000 in
theorem gX12_hope_X12_discount : GoodIn wsX12_hope (wsV RX12 159 RX12 yX12_discount wsX12_discount) := goodIn_app (goodIn_of _ (by decide +kernel)) ggX12_hope_X12_discount
theorem dX12_hope_0 : decode cX12_hope 0 = .ok (.aload_n 0, 1) := by decide +kernel
theorem dX12_hope_1 : decode cX12_hope 1 = .ok (.getfield 70, 3) := by decide +kernel
theorem dX12_hope_4 : decode cX12_hope 4 = .ok (.aload_n 0, 1) := by decide +kernel
theorem dX12_hope_5 : decode cX12_hope 5 = .ok (.getfield 93, 3) := by decide +kernel
theorem dX12_hope_8 : decode cX12_hope 8 = .ok (.iconst 0, 1) := by decide +kernel
theorem dX12_hope_9 : decode cX12_hope 9 = .ok (.iastore, 1) := by decide +kernel
theorem dX12_hope_10 : decode cX12_hope 10 = .ok (.aload_n 0, 1) := by decide +kernel
theorem dX12_hope_11 : decode cX12_hope 11 = .ok (.getfield 93, 3) := by decide +kernel
theorem dX12_hope_14 : decode cX12_hope 14 = .ok (.iconst 1, 1) := by decide +kernel
theorem dX12_hope_15 : decode cX12_hope 15 = .ok (.isub, 1) := by decide +kernel
theorem dX12_hope_16 : decode cX12_hope 16 = .ok (.istore_n 1, 1) := by decide +kernel
theorem dX12_hope_17 : decode cX12_hope 17 = .ok (.iload_n 1, 1) := by decide +kernel
theorem dX12_hope_18 : decode cX12_hope 18 = .ok (.ifCond .lt 127, 3) := by decide +kernel
theorem dX12_hope_21 : decode cX12_hope 21 = .ok (.iconst 0, 1) := by decide +kernel
theorem dX12_hope_22 : decode cX12_hope 22 = .ok (.istore_n 2, 1) := by decide +kernel
theorem dX12_hope_23 : decode cX12_hope 23 = .ok (.iconst 0, 1) := by decide +kernel
theorem dX12_hope_24 : decode cX12_hope 24 = .ok (.istore_n 3, 1) := by decide +kernel
theorem dX12_hope_25 : decode cX12_hope 25 = .ok (.iload_n 3, 1) := by decide +kernel
theorem dX12_hope_26 : decode cX12_hope 26 = .ok (.iconst 1, 1) := by decide +kernel
theorem dX12_hope_27 : decode cX12_hope 27 = .ok (.aload_n 0, 1) := by decide +kernel
theorem dX12_hope_28 : decode cX12_hope 28 = .ok (.getfield 93, 3) := by decide +kernel
theorem dX12_hope_31 : decode cX12_hope 31 = .ok (.iload_n 1, 1) := by decide +kernel
theorem dX12_hope_32 : decode cX12_hope 32 = .ok (.isub, 1) := by decide +kernel
theorem dX12_hope_33 : decode cX12_hope 33 = .ok (.iconst 1, 1) := by decide +kernel
theorem dX12_hope_34 : decode cX12_hope 34 = .ok (.isub, 1) := by decide +kernel
theorem dX12_hope_35 : decode cX12_hope 35 = .ok (.ishl, 1) := by decide +kernel
theorem dX12_hope_36 : decode cX12_hope 36 = .ok (.if_icmp .ge 87, 3) := by decide +kernel
theorem dX12_hope_39 : decode cX12_hope 39 = .ok (.iconst 1, 1) := by decide +kernel
theorem dX12_hope_40 : decode cX12_hope 40 = .ok (.iload_n 1, 1) := by decide +kernel
theorem dX12_hope_41 : decode cX12_hope 41 = .ok (.ishl, 1) := by decide +kernel
theorem dX12_hope_42 : decode cX12_hope 42 = .ok (.iload_n 3, 1) := by decide +kernel
theorem dX12_hope_43 : decode cX12_hope 43 = .ok (.iload_n 1, 1) := by decide +kernel
theorem dX12_hope_44 : decode cX12_hope 44 = .ok (.iconst 1, 1) := by decide +kernel
theorem dX12_hope_45 : decode cX12_hope 45 = .ok (.iadd, 1) := by decide +kernel
theorem dX12_hope_46 : decode cX12_hope 46 = .ok (.ishl, 1) := by decide +kernel
theorem dX12_hope_47 : decode cX12_hope 47 = .ok (.ior, 1) := by decide +kernel
theorem dX12_hope_48 : decode cX12_hope 48 = .ok (.istore 4, 2) := by decide +kernel
theorem dX12_hope_50 : decode cX12_hope 50 = .ok (.iconst 0, 1) := by decide +kernel
theorem dX12_hope_51 : decode cX12_hope 51 = .ok (.istore 5, 2) := by decide +kernel
theorem dX12_hope_53 : decode cX12_hope 53 = .ok (.iload 5, 2) := by decide +kernel
theorem dX12_hope_55 : decode cX12_hope 55 = .ok (.aload_n 0, 1) := by decide +kernel
theorem dX12_hope_56 : decode cX12_hope 56 = .ok (.getfield 121, 3) := by decide +kernel
theorem dX12_hope_59 : decode cX12_hope 59 = .ok (.if_icmp .ge 58, 3) := by decide +kernel
theorem dX12_hope_62 : decode cX12_hope 62 = .ok (.aload_n 0, 1) := by decide +kernel
theorem dX12_hope_63 : decode cX12_hope 63 = .ok (.getfield 26, 3) := by decide +kernel
theorem dX12_hope_66 : decode cX12_hope 66 = .ok (.iload 5, 2) := by decide +kernel
theorem dX12_hope_68 : decode cX12_hope 68 = .ok (.caload, 1) := by decide +kernel
theorem dX12_hope_69 : decode cX12_hope 69 = .ok (.bipush 116, 2) := by decide +kernel
theorem dX12_hope_71 : decode cX12_hope 71 = .ok (.if_icmp .eq 38, 3) := by decide +kernel
theorem dX12_hope_74 : decode cX12_hope 74 = .ok (.aload_n 0, 1) := by decide +kernel
theorem dX12_hope_75 : decode cX12_hope 75 = .ok (.iload 5, 2) := by decide +kernel
theorem dX12_hope_77 : decode cX12_hope 77 = .ok (.invokevirtual 128, 3) := by decide +kernel
theorem dX12_hope_80 : decode cX12_hope 80 = .ok (.ifCond .le 29, 3) := by decide +kernel
theorem dX12_hope_83 : decode cX12_hope 83 = .ok (.aload_n 0, 1) := by decide +kernel
theorem dX12_hope_84 : decode cX12_hope 84 = .ok (.iload 5, 2) := by decide +kernel
theorem dX12_hope_86 : decode cX12_hope 86 = .ok (.iload 4, 2) := by decide +kernel
theorem dX12_hope_88 : decode cX12_hope 88 = .ok (.invokevirtual 194, 3) := by decide +kernel
theorem dX12_hope_91 : decode cX12_hope 91 = .ok (.ifCond .eq 18, 3) := by decide +kernel
theorem dX12_hope_94 : decode cX12_hope 94 = .ok (.iload_n 2, 1) := by decide +kernel
theorem dX12_hope_95 : decode cX12_hope 95 = .ok (.aload_n 0, 1) := by decide +kernel
theorem dX12_hope_96 : decode cX12_hope 96 = .ok (.iload 5, 2) := by decide +kernel
theorem dX12_hope_98 : decode cX12_hope 98 = .ok (.iload 4, 2) := by decide +kernel
theorem dX12_hope_100 : decode cX12_hope 100 = .ok (.invokevirtual 159, 3) := by decide +kernel
theorem dX12_hope_103 : decode cX12_hope 103 = .ok (.invokestatic 201, 3) := by decide +kernel
theorem dX12_hope_106 : decode cX12_hope 106 = .ok (.goto 4, 3) := by decide +kernel
theorem dX12_hope_109 : decode cX12_hope 109 = .ok (.iload_n 2, 1) := by decide +kernel
theorem dX12_hope_110 : decode cX12_hope 110 = .ok (.istore_n 2, 1) := by decide +kernel
theorem dX12_hope_111 : decode cX12_hope 111 = .ok (.iinc 5 1, 3) := by decide +kernel
theorem dX12_hope_114 : decode cX12_hope 114 = .ok (.goto (-61), 3) := by decide +kernel
theorem dX12_hope_117 : decode cX12_hope 117 = .ok (.iinc 3 1, 3) := by decide +kernel
theorem dX12_hope_120 : decode cX12_hope 120 = .ok (.goto (-95), 3) := by decide +kernel
theorem dX12_hope_123 : decode cX12_hope 123 = .ok (.aload_n 0, 1) := by decide +kernel
theorem dX12_hope_124 : decode cX12_hope 124 = .ok (.getfield 70, 3) := by decide +kernel
theorem dX12_hope_127 : decode cX12_hope 127 = .ok (.iload_n 1, 1) := by decide +kernel
theorem dX12_hope_128 : decode cX12_hope 128 = .ok (.aload_n 0, 1) := by decide +kernel
theorem dX12_hope_129 : decode cX12_hope 129 = .ok (.getfield 70, 3) := by decide +kernel
theorem dX12_hope_132 : decode cX12_hope 132 = .ok (.iload_n 1, 1) := by decide +kernel
theorem dX12_hope_133 : decode cX12_hope 133 = .ok (.iconst 1, 1) := by decide +kernel
theorem dX12_hope_134 : decode cX12_hope 134 = .ok (.iadd, 1) := by decide +kernel
theorem dX12_hope_135 : decode cX12_hope 135 = .ok (.iaload, 1) := by decide +kernel
theorem dX12_hope_136 : decode cX12_hope 136 = .ok (.iload_n 2, 1) := by decide +kernel
theorem dX12_hope_137 : decode cX12_hope 137 = .ok (.iadd, 1) := by decide +kernel
theorem dX12_hope_138 : decode cX12_hope 138 = .ok (.iastore, 1) := by decide +kernel
theorem dX12_hope_139 : decode cX12_hope 139 = .ok (.iinc 1 (-1), 3) := by decide +kernel
theorem dX12_hope_142 : decode cX12_hope 142 = .ok (.goto (-125), 3) := by decide +kernel
theorem dX12_hope_145 : decode cX12_hope 145 = .ok (.return_, 1) := by decide +kernel
set_option maxRecDepth 20000 in
theorem ggX12_finds_X12_sumNow : GoodIn wsX12_finds wsX12_sumNow := goodIn_ca (goodIn_r _ [11, 12, 13, 14, 15, 16, 17, 10, 18, 19, 20, 125, 126, 127, 128, 129, 130, 131, 132, 133, 134, 135, 136, 137, 138, 139, 140, 141, 142, 143, 144, 145, 146, 147, 148, 149, 150, 151, 152, 153, 154, 155, 156, 157, 158, 159, 160, 161] (by decide +kernel) (by decide +kernel)) (goodIn_sub (fun _ h => List.mem_cons_of_mem _ (List.mem_append_left _ (List.mem_append_right _ h))) (by decide +kernel))
set_option maxRecDepth 20000 in
theorem gX12_finds_X12_sumNow : GoodIn wsX12_finds (wsV RX12 117 RX12 yX12_sumNow wsX12_sumNow) := goodIn_app (goodIn_of _ (by decide +kernel)) ggX12_finds_X12_sumNow
set_option maxRecDepth 20000 in
theorem ggX12_finds_X12_hope : GoodIn wsX12_finds wsX12_hope := goodIn_ca (goodIn_r _ [24, 25, 12, 2, 26, 27, 28, 29, 30, 31, 32, 33, 10, 34, 35, 36, 37, 38, 39, 40, 41, 42, 43, 44, 45, 46, 47, 48, 49, 50, 51, 52, 53, 54, 55, 56, 57, 58, 59, 60, 61, 62, 63, 14, 64, 65, 66, 67, 68, 69, 70, 71, 72, 73, 74, 75, 76, 77, 78, 79, 80, 13, 125, 126, 127, 128, 129, 130, 131, 132, 133, 134, 135, 136, 137, 138, 139, 140, 141, 142, 143, 144, 145, 146, 147, 148, 149, 150, 151, 152, 153, 154, 155, 156, 157, 158, 159, 160, 161] (by decide +kernel) (by decide +kernel)) (goodIn_sub (fun _ h => List.mem_cons_of_mem _ (List.mem_append_left _ (List.mem_append_right _ h))) (by decide +kernel))
set_option maxRecDepth 20000 in
theorem gX12_finds_X12_hope : GoodIn wsX12_finds (wsV RX12 204 RX12 yX12_hope wsX12_hope) := goodIn_app (goodIn_of _ (by decide +kernel)) ggX12_finds_X12_hope
set_option maxRecDepth 20000 in
theorem ggX12_finds_X12_goes : GoodIn wsX12_finds wsX12_goes := goodIn_ca (goodIn_r _ [84, 12, 6, 85, 5, 86, 87, 88, 2, 89, 3, 90, 91, 92, 93, 25, 94, 95, 96, 10, 97, 98, 57, 99, 100, 101, 102, 103, 26, 68, 4, 31, 32, 33, 34, 35, 36, 37, 81, 82, 83, 104, 105, 106, 107, 108, 109, 110, 111, 112, 113, 114, 115, 46, 47, 48, 49, 50, 51, 52, 53, 54, 55, 56, 58, 38, 39, 40, 41, 42, 43, 44, 45, 59, 60, 61, 62, 63, 14, 64, 65, 66, 67, 69, 70, 71, 72, 73, 74, 29, 75, 76, 77, 78, 79, 80, 13, 116, 117, 118, 119, 125, 126, 127, 128, 129, 130, 131, 132, 133, 134, 135, 136, 137, 138, 139, 140, 141, 142, 143, 144, 145, 146, 147, 148, 149, 150, 151, 152, 153, 154, 155, 156, 157, 158, 159, 160, 161] (by decide +kernel) (by decide +kernel)) (goodIn_sub (fun _ h => List.mem_cons_of_mem _ (List.mem_append_left _ (List.mem_append_right _ h))) (by decide +kernel))
set_option maxRecDepth 20000 in
theorem gX12_finds_X12_goes : GoodIn wsX12_finds (wsV RX12 181 RX12 yX12_goes wsX12_goes) := goodIn_app (goodIn_of _ (by decide +kernel)) ggX12_finds_X12_goes
set_option maxRecDepth 20000 in
theorem ggX12_finds_X12_spreads : GoodIn wsX12_finds wsX12_spreads := goodIn_ca (goodIn_ca (goodIn_r _ [123, 12, 124, 14, 86, 87, 92, 6, 85, 73, 74, 29, 75, 88, 77, 78, 79, 10, 80, 13, 125, 126, 127, 128, 129, 130, 131, 132, 133, 134, 135, 136, 137, 138, 139, 140, 141, 142, 143, 144, 145, 146, 147, 148, 149, 150, 151, 152, 153, 154, 155, 156, 157, 158, 159, 160, 161] (by decide +kernel) (by decide +kernel)) (goodIn_sub (fun _ h => List.mem_cons_of_mem _ (List.mem_append_left _ (List.mem_append_right _ h))) (by decide +kernel))) (goodIn_sub (fun _ h => List.mem_cons_of_mem _ (List.mem_append_right _ h)) (by decide +kernel))
set_option maxRecDepth 20000 in
theorem gX12_finds_X12_spreads : GoodIn wsX12_finds (wsV RX12 207 RX12 yX12_spreads wsX12_spreads) := goodIn_app (goodIn_of _ (by decide +kernel)) ggX12_finds_X12_spreads
theorem dX12_finds_0 : decode cX12_finds 0 = .ok (.aload_n 0, 1) := by decide +kernel
theorem dX12_finds_1 : decode cX12_finds 1 = .ok (.getfield 106, 3) := by decide +kernel
theorem dX12_finds_4 : decode cX12_finds 4 = .ok (.ifCond .eq 4, 3) := by decide +kernel
theorem dX12_finds_7 : decode cX12_finds 7 = .ok (.return_, 1) := by decide +kernel
theorem dX12_finds_8 : decode cX12_finds 8 = .ok (.aload_n 0, 1) := by decide +kernel
theorem dX12_finds_9 : decode cX12_finds 9 = .ok (.invokevirtual 117, 3) := by decide +kernel
theorem dX12_finds_12 : decode cX12_finds 12 = .ok (.istore_n 1, 1) := by decide +kernel
theorem dX12_finds_13 : decode cX12_finds 13 = .ok (.iconst 0, 1) := by decide +kernel
theorem dX12_finds_14 : decode cX12_finds 14 = .ok (.istore_n 2, 1) := by decide +kernel
theorem dX12_finds_15 : decode cX12_finds 15 = .ok (.iload_n 2, 1) := by decide +kernel
theorem dX12_finds_16 : decode cX12_finds 16 = .ok (.aload_n 0, 1) := by decide +kernel
theorem dX12_finds_17 : decode cX12_finds 17 = .ok (.getfield 121, 3) := by decide +kernel
theorem dX12_finds_20 : decode cX12_finds 20 = .ok (.if_icmp .ge 16, 3) := by decide +kernel
theorem dX12_finds_23 : decode cX12_finds 23 = .ok (.aload_n 0, 1) := by decide +kernel
theorem dX12_finds_24 : decode cX12_finds 24 = .ok (.getfield 58, 3) := by decide +kernel
theorem dX12_finds_27 : decode cX12_finds 27 = .ok (.iload_n 2, 1) := by decide +kernel
theorem dX12_finds_28 : decode cX12_finds 28 = .ok (.iconst 0, 1) := by decide +kernel
theorem dX12_finds_29 : decode cX12_finds 29 = .ok (.iastore, 1) := by decide +kernel
theorem dX12_finds_30 : decode cX12_finds 30 = .ok (.iinc 2 1, 3) := by decide +kernel
theorem dX12_finds_33 : decode cX12_finds 33 = .ok (.goto (-18), 3) := by decide +kernel
theorem dX12_finds_36 : decode cX12_finds 36 = .ok (.iconst 0, 1) := by decide +kernel
theorem dX12_finds_37 : decode cX12_finds 37 = .ok (.istore_n 2, 1) := by decide +kernel
theorem dX12_finds_38 : decode cX12_finds 38 = .ok (.iload_n 2, 1) := by decide +kernel
theorem dX12_finds_39 : decode cX12_finds 39 = .ok (.iconst 4, 1) := by decide +kernel
theorem dX12_finds_40 : decode cX12_finds 40 = .ok (.if_icmp .ge 16, 3) := by decide +kernel
theorem dX12_finds_43 : decode cX12_finds 43 = .ok (.aload_n 0, 1) := by decide +kernel
theorem dX12_finds_44 : decode cX12_finds 44 = .ok (.getfield 61, 3) := by decide +kernel
theorem dX12_finds_47 : decode cX12_finds 47 = .ok (.iload_n 2, 1) := by decide +kernel
theorem dX12_finds_48 : decode cX12_finds 48 = .ok (.iconst (-1), 1) := by decide +kernel
theorem dX12_finds_49 : decode cX12_finds 49 = .ok (.iastore, 1) := by decide +kernel
theorem dX12_finds_50 : decode cX12_finds 50 = .ok (.iinc 2 1, 3) := by decide +kernel
theorem dX12_finds_53 : decode cX12_finds 53 = .ok (.goto (-15), 3) := by decide +kernel
theorem dX12_finds_56 : decode cX12_finds 56 = .ok (.aload_n 0, 1) := by decide +kernel
theorem dX12_finds_57 : decode cX12_finds 57 = .ok (.iconst 0, 1) := by decide +kernel
theorem dX12_finds_58 : decode cX12_finds 58 = .ok (.putfield 175, 3) := by decide +kernel
theorem dX12_finds_61 : decode cX12_finds 61 = .ok (.aload_n 0, 1) := by decide +kernel
theorem dX12_finds_62 : decode cX12_finds 62 = .ok (.iconst (-1), 1) := by decide +kernel
theorem dX12_finds_63 : decode cX12_finds 63 = .ok (.putfield 169, 3) := by decide +kernel
theorem dX12_finds_66 : decode cX12_finds 66 = .ok (.aload_n 0, 1) := by decide +kernel
theorem dX12_finds_67 : decode cX12_finds 67 = .ok (.invokevirtual 204, 3) := by decide +kernel
theorem dX12_finds_70 : decode cX12_finds 70 = .ok (.aload_n 0, 1) := by decide +kernel
theorem dX12_finds_71 : decode cX12_finds 71 = .ok (.iconst 0, 1) := by decide +kernel
theorem dX12_finds_72 : decode cX12_finds 72 = .ok (.iconst 0, 1) := by decide +kernel
theorem dX12_finds_73 : decode cX12_finds 73 = .ok (.iconst 0, 1) := by decide +kernel
theorem dX12_finds_74 : decode cX12_finds 74 = .ok (.iload_n 1, 1) := by decide +kernel
theorem dX12_finds_75 : decode cX12_finds 75 = .ok (.invokevirtual 181, 3) := by decide +kernel
theorem dX12_finds_78 : decode cX12_finds 78 = .ok (.aload_n 0, 1) := by decide +kernel
theorem dX12_finds_79 : decode cX12_finds 79 = .ok (.iconst 1, 1) := by decide +kernel
theorem dX12_finds_80 : decode cX12_finds 80 = .ok (.putfield 106, 3) := by decide +kernel
theorem dX12_finds_83 : decode cX12_finds 83 = .ok (.aload_n 0, 1) := by decide +kernel
theorem dX12_finds_84 : decode cX12_finds 84 = .ok (.iload_n 1, 1) := by decide +kernel
theorem dX12_finds_85 : decode cX12_finds 85 = .ok (.invokevirtual 207, 3) := by decide +kernel
theorem dX12_finds_88 : decode cX12_finds 88 = .ok (.return_, 1) := by decide +kernel
set_option maxRecDepth 20000 in
theorem ggX12_spreads_X12_price : GoodIn wsX12_spreads wsX12_price := goodIn_ca (goodIn_r _ [18, 19, 3, 20, 21, 22, 23, 24, 25, 26, 27, 28, 29, 30, 31, 32, 33, 34, 35, 36, 37, 38, 39, 40, 41, 42, 43, 44, 45, 46, 47, 48, 49, 50, 51, 52, 53, 54, 55, 56] (by decide +kernel) (by decide +kernel)) (goodIn_sub (fun _ h => List.mem_cons_of_mem _ (List.mem_append_left _ (List.mem_append_right _ h))) (by decide +kernel))
set_option maxRecDepth 20000 in
theorem gX12_spreads_X12_price : GoodIn wsX12_spreads (wsV RX12 147 RX12 yX12_price wsX12_price) := goodIn_app (goodIn_of _ (by decide +kernel)) ggX12_spreads_X12_price
theorem dX12_spreads_0 : decode cX12_spreads 0 = .ok (.iconst 0, 1) := by decide +kernel
theorem dX12_spreads_1 : decode cX12_spreads 1 = .ok (.istore_n 2, 1) := by decide +kernel
theorem dX12_spreads_2 : decode cX12_spreads 2 = .ok (.iload_n 2, 1) := by decide +kernel
theorem dX12_spreads_3 : decode cX12_spreads 3 = .ok (.aload_n 0, 1) := by decide +kernel
theorem dX12_spreads_4 : decode cX12_spreads 4 = .ok (.getfield 93, 3) := by decide +kernel
theorem dX12_spreads_7 : decode cX12_spreads 7 = .ok (.if_icmp .ge 25, 3) := by decide +kernel
theorem dX12_spreads_10 : decode cX12_spreads 10 = .ok (.aload_n 0, 1) := by decide +kernel
theorem dX12_spreads_11 : decode cX12_spreads 11 = .ok (.getfield 16, 3) := by decide +kernel
theorem dX12_spreads_14 : decode cX12_spreads 14 = .ok (.aload_n 0, 1) := by decide +kernel
theorem dX12_spreads_15 : decode cX12_spreads 15 = .ok (.getfield 52, 3) := by decide +kernel
theorem dX12_spreads_18 : decode cX12_spreads 18 = .ok (.iload_n 2, 1) := by decide +kernel
theorem dX12_spreads_19 : decode cX12_spreads 19 = .ok (.iaload, 1) := by decide +kernel
theorem dX12_spreads_20 : decode cX12_spreads 20 = .ok (.aload_n 0, 1) := by decide +kernel
theorem dX12_spreads_21 : decode cX12_spreads 21 = .ok (.iload_n 2, 1) := by decide +kernel
theorem dX12_spreads_22 : decode cX12_spreads 22 = .ok (.invokevirtual 147, 3) := by decide +kernel
theorem dX12_spreads_25 : decode cX12_spreads 25 = .ok (.iastore, 1) := by decide +kernel
theorem dX12_spreads_26 : decode cX12_spreads 26 = .ok (.iinc 2 1, 3) := by decide +kernel
theorem dX12_spreads_29 : decode cX12_spreads 29 = .ok (.goto (-27), 3) := by decide +kernel
theorem dX12_spreads_32 : decode cX12_spreads 32 = .ok (.iconst 0, 1) := by decide +kernel
theorem dX12_spreads_33 : decode cX12_spreads 33 = .ok (.istore_n 2, 1) := by decide +kernel
theorem dX12_spreads_34 : decode cX12_spreads 34 = .ok (.iload_n 2, 1) := by decide +kernel
theorem dX12_spreads_35 : decode cX12_spreads 35 = .ok (.aload_n 0, 1) := by decide +kernel
theorem dX12_spreads_36 : decode cX12_spreads 36 = .ok (.getfield 178, 3) := by decide +kernel
theorem dX12_spreads_39 : decode cX12_spreads 39 = .ok (.if_icmp .ge 188, 3) := by decide +kernel
theorem dX12_spreads_42 : decode cX12_spreads 42 = .ok (.iconst 0, 1) := by decide +kernel
theorem dX12_spreads_43 : decode cX12_spreads 43 = .ok (.istore_n 3, 1) := by decide +kernel
theorem dX12_spreads_44 : decode cX12_spreads 44 = .ok (.iconst 0, 1) := by decide +kernel
theorem dX12_spreads_45 : decode cX12_spreads 45 = .ok (.istore 4, 2) := by decide +kernel
theorem dX12_spreads_47 : decode cX12_spreads 47 = .ok (.iload 4, 2) := by decide +kernel
theorem dX12_spreads_49 : decode cX12_spreads 49 = .ok (.aload_n 0, 1) := by decide +kernel
theorem dX12_spreads_50 : decode cX12_spreads 50 = .ok (.getfield 93, 3) := by decide +kernel
theorem dX12_spreads_53 : decode cX12_spreads 53 = .ok (.if_icmp .ge 33, 3) := by decide +kernel
theorem dX12_spreads_56 : decode cX12_spreads 56 = .ok (.iload_n 3, 1) := by decide +kernel
theorem dX12_spreads_57 : decode cX12_spreads 57 = .ok (.aload_n 0, 1) := by decide +kernel
theorem dX12_spreads_58 : decode cX12_spreads 58 = .ok (.getfield 73, 3) := by decide +kernel
theorem dX12_spreads_61 : decode cX12_spreads 61 = .ok (.iload 4, 2) := by decide +kernel
theorem dX12_spreads_63 : decode cX12_spreads 63 = .ok (.iaload, 1) := by decide +kernel
theorem dX12_spreads_64 : decode cX12_spreads 64 = .ok (.iload_n 2, 1) := by decide +kernel
theorem dX12_spreads_65 : decode cX12_spreads 65 = .ok (.if_icmp .ne 12, 3) := by decide +kernel
theorem dX12_spreads_68 : decode cX12_spreads 68 = .ok (.aload_n 0, 1) := by decide +kernel
theorem dX12_spreads_69 : decode cX12_spreads 69 = .ok (.iload 4, 2) := by decide +kernel
theorem dX12_spreads_71 : decode cX12_spreads 71 = .ok (.invokevirtual 147, 3) := by decide +kernel
theorem dX12_spreads_74 : decode cX12_spreads 74 = .ok (.goto 4, 3) := by decide +kernel
theorem dX12_spreads_77 : decode cX12_spreads 77 = .ok (.iconst 0, 1) := by decide +kernel
theorem dX12_spreads_78 : decode cX12_spreads 78 = .ok (.iadd, 1) := by decide +kernel
theorem dX12_spreads_79 : decode cX12_spreads 79 = .ok (.istore_n 3, 1) := by decide +kernel
theorem dX12_spreads_80 : decode cX12_spreads 80 = .ok (.iinc 4 1, 3) := by decide +kernel
theorem dX12_spreads_83 : decode cX12_spreads 83 = .ok (.goto (-36), 3) := by decide +kernel
theorem dX12_spreads_86 : decode cX12_spreads 86 = .ok (.aload_n 0, 1) := by decide +kernel
theorem dX12_spreads_87 : decode cX12_spreads 87 = .ok (.getfield 82, 3) := by decide +kernel
theorem dX12_spreads_90 : decode cX12_spreads 90 = .ok (.iload_n 2, 1) := by decide +kernel
theorem dX12_spreads_91 : decode cX12_spreads 91 = .ok (.iaload, 1) := by decide +kernel
theorem dX12_spreads_92 : decode cX12_spreads 92 = .ok (.istore 4, 2) := by decide +kernel
theorem dX12_spreads_94 : decode cX12_spreads 94 = .ok (.iconst 0, 1) := by decide +kernel
theorem dX12_spreads_95 : decode cX12_spreads 95 = .ok (.istore 5, 2) := by decide +kernel
theorem dX12_spreads_97 : decode cX12_spreads 97 = .ok (.iload 5, 2) := by decide +kernel
theorem dX12_spreads_99 : decode cX12_spreads 99 = .ok (.aload_n 0, 1) := by decide +kernel
theorem dX12_spreads_100 : decode cX12_spreads 100 = .ok (.getfield 93, 3) := by decide +kernel
theorem dX12_spreads_103 : decode cX12_spreads 103 = .ok (.if_icmp .ge 65, 3) := by decide +kernel
theorem dX12_spreads_106 : decode cX12_spreads 106 = .ok (.aload_n 0, 1) := by decide +kernel
theorem dX12_spreads_107 : decode cX12_spreads 107 = .ok (.getfield 73, 3) := by decide +kernel
theorem dX12_spreads_110 : decode cX12_spreads 110 = .ok (.iload 5, 2) := by decide +kernel
theorem dX12_spreads_112 : decode cX12_spreads 112 = .ok (.iaload, 1) := by decide +kernel
theorem dX12_spreads_113 : decode cX12_spreads 113 = .ok (.iload_n 2, 1) := by decide +kernel
theorem dX12_spreads_114 : decode cX12_spreads 114 = .ok (.if_icmp .ne 21, 3) := by decide +kernel
theorem dX12_spreads_117 : decode cX12_spreads 117 = .ok (.aload_n 0, 1) := by decide +kernel
theorem dX12_spreads_118 : decode cX12_spreads 118 = .ok (.getfield 82, 3) := by decide +kernel
theorem dX12_spreads_121 : decode cX12_spreads 121 = .ok (.iload_n 2, 1) := by decide +kernel
theorem dX12_spreads_122 : decode cX12_spreads 122 = .ok (.iaload, 1) := by decide +kernel
theorem dX12_spreads_123 : decode cX12_spreads 123 = .ok (.aload_n 0, 1) := by decide +kernel
theorem dX12_spreads_124 : decode cX12_spreads 124 = .ok (.iload 5, 2) := by decide +kernel
theorem dX12_spreads_126 : decode cX12_spreads 126 = .ok (.invokevirtual 147, 3) := by decide +kernel
theorem dX12_spreads_129 : decode cX12_spreads 129 = .ok (.imul, 1) := by decide +kernel
theorem dX12_spreads_130 : decode cX12_spreads 130 = .ok (.iload_n 3, 1) := by decide +kernel
theorem dX12_spreads_131 : decode cX12_spreads 131 = .ok (.idiv, 1) := by decide +kernel
theorem dX12_spreads_132 : decode cX12_spreads 132 = .ok (.goto 4, 3) := by decide +kernel
theorem dX12_spreads_135 : decode cX12_spreads 135 = .ok (.iconst 0, 1) := by decide +kernel
theorem dX12_spreads_136 : decode cX12_spreads 136 = .ok (.istore 6, 2) := by decide +kernel
theorem dX12_spreads_138 : decode cX12_spreads 138 = .ok (.aload_n 0, 1) := by decide +kernel
theorem dX12_spreads_139 : decode cX12_spreads 139 = .ok (.getfield 16, 3) := by decide +kernel
theorem dX12_spreads_142 : decode cX12_spreads 142 = .ok (.aload_n 0, 1) := by decide +kernel
theorem dX12_spreads_143 : decode cX12_spreads 143 = .ok (.getfield 52, 3) := by decide +kernel
theorem dX12_spreads_146 : decode cX12_spreads 146 = .ok (.iload 5, 2) := by decide +kernel
theorem dX12_spreads_148 : decode cX12_spreads 148 = .ok (.iaload, 1) := by decide +kernel
theorem dX12_spreads_149 : decode cX12_spreads 149 = .ok (.dup2, 1) := by decide +kernel
theorem dX12_spreads_150 : decode cX12_spreads 150 = .ok (.iaload, 1) := by decide +kernel
theorem dX12_spreads_151 : decode cX12_spreads 151 = .ok (.iload 6, 2) := by decide +kernel
theorem dX12_spreads_153 : decode cX12_spreads 153 = .ok (.isub, 1) := by decide +kernel
theorem dX12_spreads_154 : decode cX12_spreads 154 = .ok (.iastore, 1) := by decide +kernel
theorem dX12_spreads_155 : decode cX12_spreads 155 = .ok (.iload 4, 2) := by decide +kernel
theorem dX12_spreads_157 : decode cX12_spreads 157 = .ok (.iload 6, 2) := by decide +kernel
theorem dX12_spreads_159 : decode cX12_spreads 159 = .ok (.isub, 1) := by decide +kernel
theorem dX12_spreads_160 : decode cX12_spreads 160 = .ok (.istore 4, 2) := by decide +kernel
theorem dX12_spreads_162 : decode cX12_spreads 162 = .ok (.iinc 5 1, 3) := by decide +kernel
theorem dX12_spreads_165 : decode cX12_spreads 165 = .ok (.goto (-68), 3) := by decide +kernel
theorem dX12_spreads_168 : decode cX12_spreads 168 = .ok (.iconst 0, 1) := by decide +kernel
theorem dX12_spreads_169 : decode cX12_spreads 169 = .ok (.istore 5, 2) := by decide +kernel
theorem dX12_spreads_171 : decode cX12_spreads 171 = .ok (.iload 5, 2) := by decide +kernel
theorem dX12_spreads_173 : decode cX12_spreads 173 = .ok (.aload_n 0, 1) := by decide +kernel
theorem dX12_spreads_174 : decode cX12_spreads 174 = .ok (.getfield 93, 3) := by decide +kernel
theorem dX12_spreads_177 : decode cX12_spreads 177 = .ok (.if_icmp .ge 44, 3) := by decide +kernel
theorem dX12_spreads_180 : decode cX12_spreads 180 = .ok (.iload 4, 2) := by decide +kernel
theorem dX12_spreads_182 : decode cX12_spreads 182 = .ok (.ifCond .le 39, 3) := by decide +kernel
theorem dX12_spreads_185 : decode cX12_spreads 185 = .ok (.aload_n 0, 1) := by decide +kernel
theorem dX12_spreads_186 : decode cX12_spreads 186 = .ok (.getfield 73, 3) := by decide +kernel
theorem dX12_spreads_189 : decode cX12_spreads 189 = .ok (.iload 5, 2) := by decide +kernel
theorem dX12_spreads_191 : decode cX12_spreads 191 = .ok (.iaload, 1) := by decide +kernel
theorem dX12_spreads_192 : decode cX12_spreads 192 = .ok (.iload_n 2, 1) := by decide +kernel
theorem dX12_spreads_193 : decode cX12_spreads 193 = .ok (.if_icmp .ne 22, 3) := by decide +kernel
theorem dX12_spreads_196 : decode cX12_spreads 196 = .ok (.aload_n 0, 1) := by decide +kernel
theorem dX12_spreads_197 : decode cX12_spreads 197 = .ok (.getfield 16, 3) := by decide +kernel
theorem dX12_spreads_200 : decode cX12_spreads 200 = .ok (.aload_n 0, 1) := by decide +kernel
theorem dX12_spreads_201 : decode cX12_spreads 201 = .ok (.getfield 52, 3) := by decide +kernel
theorem dX12_spreads_204 : decode cX12_spreads 204 = .ok (.iload 5, 2) := by decide +kernel
theorem dX12_spreads_206 : decode cX12_spreads 206 = .ok (.iaload, 1) := by decide +kernel
theorem dX12_spreads_207 : decode cX12_spreads 207 = .ok (.dup2, 1) := by decide +kernel
theorem dX12_spreads_208 : decode cX12_spreads 208 = .ok (.iaload, 1) := by decide +kernel
theorem dX12_spreads_209 : decode cX12_spreads 209 = .ok (.iconst 1, 1) := by decide +kernel
theorem dX12_spreads_210 : decode cX12_spreads 210 = .ok (.isub, 1) := by decide +kernel
theorem dX12_spreads_211 : decode cX12_spreads 211 = .ok (.iastore, 1) := by decide +kernel
theorem dX12_spreads_212 : decode cX12_spreads 212 = .ok (.iinc 4 (-1), 3) := by decide +kernel
theorem dX12_spreads_215 : decode cX12_spreads 215 = .ok (.iinc 5 1, 3) := by decide +kernel
theorem dX12_spreads_218 : decode cX12_spreads 218 = .ok (.goto (-47), 3) := by decide +kernel
theorem dX12_spreads_221 : decode cX12_spreads 221 = .ok (.iinc 2 1, 3) := by decide +kernel
theorem dX12_spreads_224 : decode cX12_spreads 224 = .ok (.goto (-190), 3) := by decide +kernel
theorem dX12_spreads_227 : decode cX12_spreads 227 = .ok (.aload_n 0, 1) := by decide +kernel
theorem dX12_spreads_228 : decode cX12_spreads 228 = .ok (.getfield 169, 3) := by decide +kernel
theorem dX12_spreads_231 : decode cX12_spreads 231 = .ok (.aload_n 0, 1) := by decide +kernel
theorem dX12_spreads_232 : decode cX12_spreads 232 = .ok (.getfield 172, 3) := by decide +kernel
theorem dX12_spreads_235 : decode cX12_spreads 235 = .ok (.isub, 1) := by decide +kernel
theorem dX12_spreads_236 : decode cX12_spreads 236 = .ok (.istore_n 2, 1) := by decide +kernel
theorem dX12_spreads_237 : decode cX12_spreads 237 = .ok (.iload_n 1, 1) := by decide +kernel
theorem dX12_spreads_238 : decode cX12_spreads 238 = .ok (.aload_n 0, 1) := by decide +kernel
theorem dX12_spreads_239 : decode cX12_spreads 239 = .ok (.getfield 172, 3) := by decide +kernel
theorem dX12_spreads_242 : decode cX12_spreads 242 = .ok (.isub, 1) := by decide +kernel
theorem dX12_spreads_243 : decode cX12_spreads 243 = .ok (.istore_n 3, 1) := by decide +kernel
theorem dX12_spreads_244 : decode cX12_spreads 244 = .ok (.iload_n 2, 1) := by decide +kernel
theorem dX12_spreads_245 : decode cX12_spreads 245 = .ok (.iload_n 3, 1) := by decide +kernel
theorem dX12_spreads_246 : decode cX12_spreads 246 = .ok (.invokestatic 150, 3) := by decide +kernel
theorem dX12_spreads_249 : decode cX12_spreads 249 = .ok (.istore_n 2, 1) := by decide +kernel
theorem dX12_spreads_250 : decode cX12_spreads 250 = .ok (.iload_n 2, 1) := by decide +kernel
theorem dX12_spreads_251 : decode cX12_spreads 251 = .ok (.istore 4, 2) := by decide +kernel
theorem dX12_spreads_253 : decode cX12_spreads 253 = .ok (.iconst 0, 1) := by decide +kernel
theorem dX12_spreads_254 : decode cX12_spreads 254 = .ok (.istore 5, 2) := by decide +kernel
theorem dX12_spreads_256 : decode cX12_spreads 256 = .ok (.iload 5, 2) := by decide +kernel
theorem dX12_spreads_258 : decode cX12_spreads 258 = .ok (.aload_n 0, 1) := by decide +kernel
theorem dX12_spreads_259 : decode cX12_spreads 259 = .ok (.getfield 93, 3) := by decide +kernel
theorem dX12_spreads_262 : decode cX12_spreads 262 = .ok (.if_icmp .ge 52, 3) := by decide +kernel
theorem dX12_spreads_265 : decode cX12_spreads 265 = .ok (.aload_n 0, 1) := by decide +kernel
theorem dX12_spreads_266 : decode cX12_spreads 266 = .ok (.getfield 55, 3) := by decide +kernel
theorem dX12_spreads_269 : decode cX12_spreads 269 = .ok (.iload 5, 2) := by decide +kernel
theorem dX12_spreads_271 : decode cX12_spreads 271 = .ok (.iload_n 3, 1) := by decide +kernel
theorem dX12_spreads_272 : decode cX12_spreads 272 = .ok (.ifCond .ne 7, 3) := by decide +kernel
theorem dX12_spreads_275 : decode cX12_spreads 275 = .ok (.iconst 0, 1) := by decide +kernel
theorem dX12_spreads_276 : decode cX12_spreads 276 = .ok (.goto 19, 3) := by decide +kernel
theorem dX12_spreads_279 : decode cX12_spreads 279 = .ok (.iload_n 2, 1) := by decide +kernel
theorem dX12_spreads_280 : decode cX12_spreads 280 = .ok (.aload_n 0, 1) := by decide +kernel
theorem dX12_spreads_281 : decode cX12_spreads 281 = .ok (.getfield 16, 3) := by decide +kernel
theorem dX12_spreads_284 : decode cX12_spreads 284 = .ok (.aload_n 0, 1) := by decide +kernel
theorem dX12_spreads_285 : decode cX12_spreads 285 = .ok (.getfield 52, 3) := by decide +kernel
theorem dX12_spreads_288 : decode cX12_spreads 288 = .ok (.iload 5, 2) := by decide +kernel
theorem dX12_spreads_290 : decode cX12_spreads 290 = .ok (.iaload, 1) := by decide +kernel
theorem dX12_spreads_291 : decode cX12_spreads 291 = .ok (.iaload, 1) := by decide +kernel
theorem dX12_spreads_292 : decode cX12_spreads 292 = .ok (.imul, 1) := by decide +kernel
theorem dX12_spreads_293 : decode cX12_spreads 293 = .ok (.iload_n 3, 1) := by decide +kernel
theorem dX12_spreads_294 : decode cX12_spreads 294 = .ok (.idiv, 1) := by decide +kernel
theorem dX12_spreads_295 : decode cX12_spreads 295 = .ok (.iastore, 1) := by decide +kernel
theorem dX12_spreads_296 : decode cX12_spreads 296 = .ok (.iload 4, 2) := by decide +kernel
theorem dX12_spreads_298 : decode cX12_spreads 298 = .ok (.aload_n 0, 1) := by decide +kernel
theorem dX12_spreads_299 : decode cX12_spreads 299 = .ok (.getfield 55, 3) := by decide +kernel
theorem dX12_spreads_302 : decode cX12_spreads 302 = .ok (.iload 5, 2) := by decide +kernel
theorem dX12_spreads_304 : decode cX12_spreads 304 = .ok (.iaload, 1) := by decide +kernel
theorem dX12_spreads_305 : decode cX12_spreads 305 = .ok (.isub, 1) := by decide +kernel
theorem dX12_spreads_306 : decode cX12_spreads 306 = .ok (.istore 4, 2) := by decide +kernel
theorem dX12_spreads_308 : decode cX12_spreads 308 = .ok (.iinc 5 1, 3) := by decide +kernel
theorem dX12_spreads_311 : decode cX12_spreads 311 = .ok (.goto (-55), 3) := by decide +kernel
theorem dX12_spreads_314 : decode cX12_spreads 314 = .ok (.iconst 0, 1) := by decide +kernel
theorem dX12_spreads_315 : decode cX12_spreads 315 = .ok (.istore 5, 2) := by decide +kernel
theorem dX12_spreads_317 : decode cX12_spreads 317 = .ok (.iload 5, 2) := by decide +kernel
theorem dX12_spreads_319 : decode cX12_spreads 319 = .ok (.aload_n 0, 1) := by decide +kernel
theorem dX12_spreads_320 : decode cX12_spreads 320 = .ok (.getfield 93, 3) := by decide +kernel
theorem dX12_spreads_323 : decode cX12_spreads 323 = .ok (.if_icmp .ge 84, 3) := by decide +kernel
theorem dX12_spreads_326 : decode cX12_spreads 326 = .ok (.iload 4, 2) := by decide +kernel
theorem dX12_spreads_328 : decode cX12_spreads 328 = .ok (.ifCond .le 22, 3) := by decide +kernel
theorem dX12_spreads_331 : decode cX12_spreads 331 = .ok (.aload_n 0, 1) := by decide +kernel
theorem dX12_spreads_332 : decode cX12_spreads 332 = .ok (.getfield 16, 3) := by decide +kernel
theorem dX12_spreads_335 : decode cX12_spreads 335 = .ok (.aload_n 0, 1) := by decide +kernel
theorem dX12_spreads_336 : decode cX12_spreads 336 = .ok (.getfield 52, 3) := by decide +kernel
theorem dX12_spreads_339 : decode cX12_spreads 339 = .ok (.iload 5, 2) := by decide +kernel
theorem dX12_spreads_341 : decode cX12_spreads 341 = .ok (.iaload, 1) := by decide +kernel
theorem dX12_spreads_342 : decode cX12_spreads 342 = .ok (.iaload, 1) := by decide +kernel
theorem dX12_spreads_343 : decode cX12_spreads 343 = .ok (.ifCond .le 7, 3) := by decide +kernel
theorem dX12_spreads_346 : decode cX12_spreads 346 = .ok (.iconst 1, 1) := by decide +kernel
theorem dX12_spreads_347 : decode cX12_spreads 347 = .ok (.goto 4, 3) := by decide +kernel
theorem dX12_spreads_350 : decode cX12_spreads 350 = .ok (.iconst 0, 1) := by decide +kernel
theorem dX12_spreads_351 : decode cX12_spreads 351 = .ok (.istore 6, 2) := by decide +kernel
theorem dX12_spreads_353 : decode cX12_spreads 353 = .ok (.aload_n 0, 1) := by decide +kernel
theorem dX12_spreads_354 : decode cX12_spreads 354 = .ok (.getfield 16, 3) := by decide +kernel
theorem dX12_spreads_357 : decode cX12_spreads 357 = .ok (.aload_n 0, 1) := by decide +kernel
theorem dX12_spreads_358 : decode cX12_spreads 358 = .ok (.getfield 52, 3) := by decide +kernel
theorem dX12_spreads_361 : decode cX12_spreads 361 = .ok (.iload 5, 2) := by decide +kernel
theorem dX12_spreads_363 : decode cX12_spreads 363 = .ok (.iaload, 1) := by decide +kernel
theorem dX12_spreads_364 : decode cX12_spreads 364 = .ok (.dup2, 1) := by decide +kernel
theorem dX12_spreads_365 : decode cX12_spreads 365 = .ok (.iaload, 1) := by decide +kernel
theorem dX12_spreads_366 : decode cX12_spreads 366 = .ok (.aload_n 0, 1) := by decide +kernel
theorem dX12_spreads_367 : decode cX12_spreads 367 = .ok (.getfield 55, 3) := by decide +kernel
theorem dX12_spreads_370 : decode cX12_spreads 370 = .ok (.iload 5, 2) := by decide +kernel
theorem dX12_spreads_372 : decode cX12_spreads 372 = .ok (.iaload, 1) := by decide +kernel
theorem dX12_spreads_373 : decode cX12_spreads 373 = .ok (.iload 6, 2) := by decide +kernel
theorem dX12_spreads_375 : decode cX12_spreads 375 = .ok (.ifCond .eq 7, 3) := by decide +kernel
theorem dX12_spreads_378 : decode cX12_spreads 378 = .ok (.iconst 1, 1) := by decide +kernel
theorem dX12_spreads_379 : decode cX12_spreads 379 = .ok (.goto 4, 3) := by decide +kernel
theorem dX12_spreads_382 : decode cX12_spreads 382 = .ok (.iconst 0, 1) := by decide +kernel
theorem dX12_spreads_383 : decode cX12_spreads 383 = .ok (.iadd, 1) := by decide +kernel
theorem dX12_spreads_384 : decode cX12_spreads 384 = .ok (.isub, 1) := by decide +kernel
theorem dX12_spreads_385 : decode cX12_spreads 385 = .ok (.iastore, 1) := by decide +kernel
theorem dX12_spreads_386 : decode cX12_spreads 386 = .ok (.iload 4, 2) := by decide +kernel
theorem dX12_spreads_388 : decode cX12_spreads 388 = .ok (.iload 6, 2) := by decide +kernel
theorem dX12_spreads_390 : decode cX12_spreads 390 = .ok (.ifCond .eq 7, 3) := by decide +kernel
theorem dX12_spreads_393 : decode cX12_spreads 393 = .ok (.iconst 1, 1) := by decide +kernel
theorem dX12_spreads_394 : decode cX12_spreads 394 = .ok (.goto 4, 3) := by decide +kernel
theorem dX12_spreads_397 : decode cX12_spreads 397 = .ok (.iconst 0, 1) := by decide +kernel
theorem dX12_spreads_398 : decode cX12_spreads 398 = .ok (.isub, 1) := by decide +kernel
theorem dX12_spreads_399 : decode cX12_spreads 399 = .ok (.istore 4, 2) := by decide +kernel
theorem dX12_spreads_401 : decode cX12_spreads 401 = .ok (.iinc 5 1, 3) := by decide +kernel
theorem dX12_spreads_404 : decode cX12_spreads 404 = .ok (.goto (-87), 3) := by decide +kernel
theorem dX12_spreads_407 : decode cX12_spreads 407 = .ok (.return_, 1) := by decide +kernel
set_option maxRecDepth 20000 in
theorem ggX12_bestDiscount_X12_finds : GoodIn wsX12_bestDiscount wsX12_finds := goodIn_ca (goodIn_ca (goodIn_r _ [7, 8, 9, 10, 11, 12, 2, 13, 14, 15, 6, 16, 17, 18, 19, 20, 21, 22, 23, 24, 25, 26, 27, 28, 29, 30, 31, 32, 33, 34, 35, 36, 37, 38, 39, 40, 41, 42, 43, 44, 45, 46, 47, 48, 49, 50, 51, 52, 53, 54, 55, 56, 57, 58, 59, 60, 61, 62, 63, 64, 65, 66, 67, 68, 69, 70, 71, 72, 73, 74, 75, 76, 77, 78, 79, 80, 81, 82, 83, 84, 85, 86, 87, 88, 89, 90, 91, 92, 93, 94, 95, 96, 97, 98, 99, 100, 101, 102, 103, 104, 105, 106, 107, 108, 109, 110, 111, 112, 113, 114, 115, 116, 117, 118, 119, 120, 121, 122, 123, 124, 125, 126, 127, 128, 129, 130, 131, 132, 133, 134, 135, 136, 137, 138, 139, 140, 141, 142, 143, 144, 145, 146, 147, 148, 149, 150, 151, 152, 153, 154, 155, 156, 157, 158, 159, 160, 161, 162, 163, 164, 165, 166] (by decide +kernel) (by decide +kernel)) (goodIn_sub (fun _ h => List.mem_cons_of_mem _ (List.mem_append_left _ (List.mem_append_right _ h))) (by decide +kernel))) (goodIn_sub (fun _ h => List.mem_cons_of_mem _ (List.mem_append_right _ h)) (by decide +kernel))
set_option maxRecDepth 20000 in
theorem gX12_bestDiscount_X12_finds : GoodIn wsX12_bestDiscount (wsV RX12 211 RX12 yX12_finds wsX12_finds) := goodIn_app (goodIn_of _ (by decide +kernel)) ggX12_bestDiscount_X12_finds
theorem dX12_bestDiscount_0 : decode cX12_bestDiscount 0 = .ok (.aload_n 0, 1) := by decide +kernel
theorem dX12_bestDiscount_1 : decode cX12_bestDiscount 1 = .ok (.iconst 0, 1) := by decide +kernel
theorem dX12_bestDiscount_2 : decode cX12_bestDiscount 2 = .ok (.putfield 89, 3) := by decide +kernel
theorem dX12_bestDiscount_5 : decode cX12_bestDiscount 5 = .ok (.aload_n 0, 1) := by decide +kernel
theorem dX12_bestDiscount_6 : decode cX12_bestDiscount 6 = .ok (.invokevirtual 211, 3) := by decide +kernel
theorem dX12_bestDiscount_9 : decode cX12_bestDiscount 9 = .ok (.aload_n 0, 1) := by decide +kernel
theorem dX12_bestDiscount_10 : decode cX12_bestDiscount 10 = .ok (.getfield 169, 3) := by decide +kernel
theorem dX12_bestDiscount_13 : decode cX12_bestDiscount 13 = .ok (.ireturn, 1) := by decide +kernel
set_option maxRecDepth 20000 in
theorem ggX12_bestByTrying_X12_looks : GoodIn wsX12_bestByTrying wsX12_looks := goodIn_ca (goodIn_r _ [6, 1, 7, 8, 9, 138, 139, 140, 141, 142, 143, 144, 145, 146, 147, 148, 149, 150, 151, 152, 153, 154, 155, 156, 157, 158, 159, 160, 161, 162, 163, 164, 165, 166, 167, 168, 169, 170, 171, 172, 173, 174] (by decide +kernel) (by decide +kernel)) (goodIn_sub (fun _ h => List.mem_cons_of_mem _ (List.mem_append_left _ (List.mem_append_right _ h))) (by decide +kernel))
set_option maxRecDepth 20000 in
theorem gX12_bestByTrying_X12_looks : GoodIn wsX12_bestByTrying (wsV RX12 103 RX12 yX12_looks wsX12_looks) := goodIn_app (goodIn_of _ (by decide +kernel)) ggX12_bestByTrying_X12_looks
set_option maxRecDepth 20000 in
theorem ggX12_bestByTrying_X12_raises : GoodIn wsX12_bestByTrying wsX12_raises := goodIn_r _ [13, 14, 138, 139, 140, 141, 142, 143, 144, 145, 146, 147, 148, 149, 150, 151, 152, 153, 154, 155, 156, 157, 158, 159, 160, 161, 162, 163, 164, 165, 166, 167, 168, 169, 170, 171, 172, 173, 174] (by decide +kernel) (by decide +kernel)
set_option maxRecDepth 20000 in
theorem gX12_bestByTrying_X12_raises : GoodIn wsX12_bestByTrying (wsV RX12 214 RX12 yX12_raises wsX12_raises) := goodIn_app (goodIn_of _ (by decide +kernel)) ggX12_bestByTrying_X12_raises
set_option maxRecDepth 20000 in
theorem ggX12_bestByTrying_X12_bestDiscount : GoodIn wsX12_bestByTrying wsX12_bestDiscount := goodIn_ca (goodIn_ca (goodIn_r _ [18, 14, 19, 20, 21, 22, 5, 23, 24, 25, 26, 27, 28, 29, 30, 31, 32, 1, 33, 9, 2, 3, 4, 6, 7, 8, 34, 35, 36, 37, 38, 39, 40, 41, 42, 43, 44, 45, 46, 47, 48, 49, 50, 51, 52, 53, 54, 55, 56, 57, 58, 59, 60, 61, 62, 63, 64, 65, 66, 67, 68, 69, 70, 71, 72, 73, 74, 75, 76, 77, 78, 79, 80, 81, 82, 83, 84, 85, 86, 87, 88, 89, 90, 91, 92, 93, 94, 95, 96, 97, 98, 99, 100, 101, 102, 103, 104, 105, 106, 107, 108, 109, 110, 111, 112, 113, 114, 115, 116, 117, 118, 119, 120, 121, 122, 123, 124, 125, 126, 127, 128, 129, 130, 131, 132, 133, 134, 135, 136, 137, 138, 139, 140, 141, 142, 143, 144, 145, 146, 147, 148, 149, 150, 151, 152, 153, 154, 155, 156, 157, 158, 159, 160, 161, 162, 163, 164, 165, 166, 167, 168, 169, 170, 171, 172, 173, 174] (by decide +kernel) (by decide +kernel)) (goodIn_sub (fun _ h => List.mem_cons_of_mem _ (List.mem_append_left _ (List.mem_append_right _ h))) (by decide +kernel))) (goodIn_sub (fun _ h => List.mem_cons_of_mem _ (List.mem_append_right _ h)) (by decide +kernel))
set_option maxRecDepth 20000 in
theorem gX12_bestByTrying_X12_bestDiscount : GoodIn wsX12_bestByTrying (wsV RX12 217 RX12 yX12_bestDiscount wsX12_bestDiscount) := goodIn_app (goodIn_of _ (by decide +kernel)) ggX12_bestByTrying_X12_bestDiscount
theorem dX12_bestByTrying_0 : decode cX12_bestByTrying 0 = .ok (.aload_n 0, 1) := by decide +kernel
theorem dX12_bestByTrying_1 : decode cX12_bestByTrying 1 = .ok (.invokevirtual 103, 3) := by decide +kernel
theorem dX12_bestByTrying_4 : decode cX12_bestByTrying 4 = .ok (.aload_n 0, 1) := by decide +kernel
theorem dX12_bestByTrying_5 : decode cX12_bestByTrying 5 = .ok (.getfield 93, 3) := by decide +kernel
theorem dX12_bestByTrying_8 : decode cX12_bestByTrying 8 = .ok (.iconst 5, 1) := by decide +kernel
theorem dX12_bestByTrying_9 : decode cX12_bestByTrying 9 = .ok (.if_icmp .le 9, 3) := by decide +kernel
theorem dX12_bestByTrying_12 : decode cX12_bestByTrying 12 = .ok (.aload_n 0, 1) := by decide +kernel
theorem dX12_bestByTrying_13 : decode cX12_bestByTrying 13 = .ok (.iconst 1, 1) := by decide +kernel
theorem dX12_bestByTrying_14 : decode cX12_bestByTrying 14 = .ok (.invokevirtual 214, 3) := by decide +kernel
theorem dX12_bestByTrying_17 : decode cX12_bestByTrying 17 = .ok (.ireturn, 1) := by decide +kernel
theorem dX12_bestByTrying_18 : decode cX12_bestByTrying 18 = .ok (.aload_n 0, 1) := by decide +kernel
theorem dX12_bestByTrying_19 : decode cX12_bestByTrying 19 = .ok (.invokevirtual 217, 3) := by decide +kernel
theorem dX12_bestByTrying_22 : decode cX12_bestByTrying 22 = .ok (.ireturn, 1) := by decide +kernel
theorem dX12_placeOf_0 : decode cX12_placeOf 0 = .ok (.iconst 0, 1) := by decide +kernel
theorem dX12_placeOf_1 : decode cX12_placeOf 1 = .ok (.istore_n 2, 1) := by decide +kernel
theorem dX12_placeOf_2 : decode cX12_placeOf 2 = .ok (.aload_n 0, 1) := by decide +kernel
theorem dX12_placeOf_3 : decode cX12_placeOf 3 = .ok (.getfield 52, 3) := by decide +kernel
theorem dX12_placeOf_6 : decode cX12_placeOf 6 = .ok (.iload_n 2, 1) := by decide +kernel
theorem dX12_placeOf_7 : decode cX12_placeOf 7 = .ok (.iaload, 1) := by decide +kernel
theorem dX12_placeOf_8 : decode cX12_placeOf 8 = .ok (.iload_n 1, 1) := by decide +kernel
theorem dX12_placeOf_9 : decode cX12_placeOf 9 = .ok (.if_icmp .eq 9, 3) := by decide +kernel
theorem dX12_placeOf_12 : decode cX12_placeOf 12 = .ok (.iinc 2 1, 3) := by decide +kernel
theorem dX12_placeOf_15 : decode cX12_placeOf 15 = .ok (.goto (-13), 3) := by decide +kernel
theorem dX12_placeOf_18 : decode cX12_placeOf 18 = .ok (.iload_n 2, 1) := by decide +kernel
theorem dX12_placeOf_19 : decode cX12_placeOf 19 = .ok (.ireturn, 1) := by decide +kernel
set_option maxRecDepth 20000 in
theorem ggX12_offerOf_X12_isInBasket : GoodIn wsX12_offerOf wsX12_isInBasket := goodIn_ca (goodIn_r _ [8, 9, 10, 11, 12, 7, 13, 141, 142, 143, 144, 145, 146, 147, 148, 149, 150, 151, 152, 153, 154, 155, 156, 157, 158, 159, 160, 161, 162, 163, 164, 165, 166, 167, 168, 169, 170, 171, 172, 173, 174, 175, 176, 177] (by decide +kernel) (by decide +kernel)) (goodIn_sub (fun _ h => List.mem_cons_of_mem _ (List.mem_append_left _ (List.mem_append_right _ h))) (by decide +kernel))
set_option maxRecDepth 20000 in
theorem gX12_offerOf_X12_isInBasket : GoodIn wsX12_offerOf (wsV RX12 110 RX12 yX12_isInBasket wsX12_isInBasket) := goodIn_app (goodIn_of _ (by decide +kernel)) ggX12_offerOf_X12_isInBasket
set_option maxRecDepth 20000 in
theorem ggX12_offerOf_X12_finds : GoodIn wsX12_offerOf wsX12_finds := goodIn_ca (goodIn_ca (goodIn_r _ [17, 18, 19, 20, 21, 22, 23, 24, 25, 26, 7, 27, 28, 29, 30, 31, 32, 33, 34, 9, 10, 35, 36, 37, 38, 39, 40, 41, 42, 43, 44, 45, 46, 47, 48, 49, 50, 51, 52, 53, 54, 55, 56, 57, 58, 59, 60, 61, 62, 63, 64, 65, 66, 67, 68, 69, 70, 71, 72, 73, 74, 75, 76, 77, 78, 79, 80, 81, 82, 83, 84, 85, 86, 87, 88, 89, 90, 91, 92, 93, 94, 95, 96, 97, 98, 99, 100, 2, 101, 102, 3, 103, 104, 105, 106, 107, 108, 109, 110, 111, 112, 113, 114, 115, 116, 117, 118, 119, 120, 121, 122, 123, 124, 125, 126, 127, 128, 129, 130, 131, 132, 133, 134, 135, 136, 141, 142, 143, 144, 145, 146, 147, 148, 149, 150, 151, 152, 153, 154, 155, 156, 157, 158, 159, 160, 161, 162, 163, 164, 165, 166, 167, 168, 169, 170, 171, 172, 173, 174, 175, 176, 177] (by decide +kernel) (by decide +kernel)) (goodIn_sub (fun _ h => List.mem_cons_of_mem _ (List.mem_append_left _ (List.mem_append_right _ h))) (by decide +kernel))) (goodIn_sub (fun _ h => List.mem_cons_of_mem _ (List.mem_append_right _ h)) (by decide +kernel))
set_option maxRecDepth 20000 in
theorem gX12_offerOf_X12_finds : GoodIn wsX12_offerOf (wsV RX12 211 RX12 yX12_finds wsX12_finds) := goodIn_app (goodIn_of _ (by decide +kernel)) ggX12_offerOf_X12_finds
set_option maxRecDepth 20000 in
theorem ggX12_offerOf_X12_looks : GoodIn wsX12_offerOf wsX12_looks := goodIn_ca (goodIn_r _ [34, 28, 9, 10, 30, 141, 142, 143, 144, 145, 146, 147, 148, 149, 150, 151, 152, 153, 154, 155, 156, 157, 158, 159, 160, 161, 162, 163, 164, 165, 166, 167, 168, 169, 170, 171, 172, 173, 174, 175, 176, 177] (by decide +kernel) (by decide +kernel)) (goodIn_sub (fun _ h => List.mem_cons_of_mem _ (List.mem_append_left _ (List.mem_append_right _ h))) (by decide +kernel))
set_option maxRecDepth 20000 in
theorem gX12_offerOf_X12_looks : GoodIn wsX12_offerOf (wsV RX12 103 RX12 yX12_looks wsX12_looks) := goodIn_app (goodIn_of _ (by decide +kernel)) ggX12_offerOf_X12_looks
set_option maxRecDepth 20000 in
theorem ggX12_offerOf_X12_placeOf : GoodIn wsX12_offerOf wsX12_placeOf := goodIn_ca (goodIn_r _ [140, 30, 141, 142, 143, 144, 145, 146, 147, 148, 149, 150, 151, 152, 153, 154, 155, 156, 157, 158, 159, 160, 161, 162, 163, 164, 165, 166, 167, 168, 169, 170, 171, 172, 173, 174, 175, 176, 177] (by decide +kernel) (by decide +kernel)) (goodIn_sub (fun _ h => List.mem_cons_of_mem _ (List.mem_append_left _ (List.mem_append_right _ h))) (by decide +kernel))
set_option maxRecDepth 20000 in
theorem gX12_offerOf_X12_placeOf : GoodIn wsX12_offerOf (wsV RX12 220 RX12 yX12_placeOf wsX12_placeOf) := goodIn_app (goodIn_of _ (by decide +kernel)) ggX12_offerOf_X12_placeOf
theorem dX12_offerOf_0 : decode cX12_offerOf 0 = .ok (.aload_n 0, 1) := by decide +kernel
theorem dX12_offerOf_1 : decode cX12_offerOf 1 = .ok (.aload_n 0, 1) := by decide +kernel
theorem dX12_offerOf_2 : decode cX12_offerOf 2 = .ok (.iload_n 1, 1) := by decide +kernel
theorem dX12_offerOf_3 : decode cX12_offerOf 3 = .ok (.invokevirtual 110, 3) := by decide +kernel
theorem dX12_offerOf_6 : decode cX12_offerOf 6 = .ok (.ifCond .eq 7, 3) := by decide +kernel
theorem dX12_offerOf_9 : decode cX12_offerOf 9 = .ok (.iconst 0, 1) := by decide +kernel
theorem dX12_offerOf_10 : decode cX12_offerOf 10 = .ok (.goto 4, 3) := by decide +kernel
theorem dX12_offerOf_13 : decode cX12_offerOf 13 = .ok (.iconst 1, 1) := by decide +kernel
theorem dX12_offerOf_14 : decode cX12_offerOf 14 = .ok (.putfield 89, 3) := by decide +kernel
theorem dX12_offerOf_17 : decode cX12_offerOf 17 = .ok (.aload_n 0, 1) := by decide +kernel
theorem dX12_offerOf_18 : decode cX12_offerOf 18 = .ok (.getfield 89, 3) := by decide +kernel
theorem dX12_offerOf_21 : decode cX12_offerOf 21 = .ok (.ifCond .le 5, 3) := by decide +kernel
theorem dX12_offerOf_24 : decode cX12_offerOf 24 = .ok (.iconst 0, 1) := by decide +kernel
theorem dX12_offerOf_25 : decode cX12_offerOf 25 = .ok (.ireturn, 1) := by decide +kernel
theorem dX12_offerOf_26 : decode cX12_offerOf 26 = .ok (.aload_n 0, 1) := by decide +kernel
theorem dX12_offerOf_27 : decode cX12_offerOf 27 = .ok (.invokevirtual 211, 3) := by decide +kernel
theorem dX12_offerOf_30 : decode cX12_offerOf 30 = .ok (.aload_n 0, 1) := by decide +kernel
theorem dX12_offerOf_31 : decode cX12_offerOf 31 = .ok (.invokevirtual 103, 3) := by decide +kernel
theorem dX12_offerOf_34 : decode cX12_offerOf 34 = .ok (.aload_n 0, 1) := by decide +kernel
theorem dX12_offerOf_35 : decode cX12_offerOf 35 = .ok (.getfield 73, 3) := by decide +kernel
theorem dX12_offerOf_38 : decode cX12_offerOf 38 = .ok (.aload_n 0, 1) := by decide +kernel
theorem dX12_offerOf_39 : decode cX12_offerOf 39 = .ok (.iload_n 1, 1) := by decide +kernel
theorem dX12_offerOf_40 : decode cX12_offerOf 40 = .ok (.invokevirtual 220, 3) := by decide +kernel
theorem dX12_offerOf_43 : decode cX12_offerOf 43 = .ok (.iaload, 1) := by decide +kernel
theorem dX12_offerOf_44 : decode cX12_offerOf 44 = .ok (.istore_n 2, 1) := by decide +kernel
theorem dX12_offerOf_45 : decode cX12_offerOf 45 = .ok (.iload_n 2, 1) := by decide +kernel
theorem dX12_offerOf_46 : decode cX12_offerOf 46 = .ok (.iconst (-1), 1) := by decide +kernel
theorem dX12_offerOf_47 : decode cX12_offerOf 47 = .ok (.if_icmp .ne 7, 3) := by decide +kernel
theorem dX12_offerOf_50 : decode cX12_offerOf 50 = .ok (.iconst (-1), 1) := by decide +kernel
theorem dX12_offerOf_51 : decode cX12_offerOf 51 = .ok (.goto 9, 3) := by decide +kernel
theorem dX12_offerOf_54 : decode cX12_offerOf 54 = .ok (.aload_n 0, 1) := by decide +kernel
theorem dX12_offerOf_55 : decode cX12_offerOf 55 = .ok (.getfield 79, 3) := by decide +kernel
theorem dX12_offerOf_58 : decode cX12_offerOf 58 = .ok (.iload_n 2, 1) := by decide +kernel
theorem dX12_offerOf_59 : decode cX12_offerOf 59 = .ok (.iaload, 1) := by decide +kernel
theorem dX12_offerOf_60 : decode cX12_offerOf 60 = .ok (.ireturn, 1) := by decide +kernel
theorem dX12_usesOf_0 : decode cX12_usesOf 0 = .ok (.aload_n 0, 1) := by decide +kernel
theorem dX12_usesOf_1 : decode cX12_usesOf 1 = .ok (.getfield 26, 3) := by decide +kernel
theorem dX12_usesOf_4 : decode cX12_usesOf 4 = .ok (.iload_n 1, 1) := by decide +kernel
theorem dX12_usesOf_5 : decode cX12_usesOf 5 = .ok (.caload, 1) := by decide +kernel
theorem dX12_usesOf_6 : decode cX12_usesOf 6 = .ok (.bipush 116, 2) := by decide +kernel
theorem dX12_usesOf_8 : decode cX12_usesOf 8 = .ok (.if_icmp .ne 20, 3) := by decide +kernel
theorem dX12_usesOf_11 : decode cX12_usesOf 11 = .ok (.aload_n 0, 1) := by decide +kernel
theorem dX12_usesOf_12 : decode cX12_usesOf 12 = .ok (.getfield 85, 3) := by decide +kernel
theorem dX12_usesOf_15 : decode cX12_usesOf 15 = .ok (.iload_n 1, 1) := by decide +kernel
theorem dX12_usesOf_16 : decode cX12_usesOf 16 = .ok (.baload, 1) := by decide +kernel
theorem dX12_usesOf_17 : decode cX12_usesOf 17 = .ok (.ifCond .eq 7, 3) := by decide +kernel
theorem dX12_usesOf_20 : decode cX12_usesOf 20 = .ok (.iconst 1, 1) := by decide +kernel
theorem dX12_usesOf_21 : decode cX12_usesOf 21 = .ok (.goto 13, 3) := by decide +kernel
theorem dX12_usesOf_24 : decode cX12_usesOf 24 = .ok (.iconst 0, 1) := by decide +kernel
theorem dX12_usesOf_25 : decode cX12_usesOf 25 = .ok (.goto 9, 3) := by decide +kernel
theorem dX12_usesOf_28 : decode cX12_usesOf 28 = .ok (.aload_n 0, 1) := by decide +kernel
theorem dX12_usesOf_29 : decode cX12_usesOf 29 = .ok (.getfield 76, 3) := by decide +kernel
theorem dX12_usesOf_32 : decode cX12_usesOf 32 = .ok (.iload_n 1, 1) := by decide +kernel
theorem dX12_usesOf_33 : decode cX12_usesOf 33 = .ok (.iaload, 1) := by decide +kernel
theorem dX12_usesOf_34 : decode cX12_usesOf 34 = .ok (.ireturn, 1) := by decide +kernel
set_option maxRecDepth 20000 in
theorem ggX12_uses_X12_in : GoodIn wsX12_uses wsX12_in := goodIn_r _ [6] (by decide +kernel) (by decide +kernel)
set_option maxRecDepth 20000 in
theorem gX12_uses_X12_in : GoodIn wsX12_uses (va_wsS RX12 99 yX12_in wsX12_in) := goodIn_app (goodIn_of _ (by decide +kernel)) ggX12_uses_X12_in
set_option maxRecDepth 20000 in
theorem ggX12_uses_X12_finds : GoodIn wsX12_uses wsX12_finds := goodIn_ca (goodIn_ca (goodIn_r _ [10, 11, 1, 12, 13, 14, 15, 16, 17, 18, 5, 19, 20, 21, 22, 23, 24, 25, 26, 27, 28, 29, 30, 31, 32, 33, 34, 35, 36, 37, 38, 39, 40, 41, 42, 43, 44, 45, 46, 47, 48, 49, 50, 51, 52, 53, 54, 55, 56, 57, 58, 59, 60, 61, 62, 63, 64, 65, 66, 67, 68, 69, 70, 71, 72, 73, 74, 75, 76, 77, 78, 79, 80, 81, 82, 83, 84, 85, 86, 87, 88, 89, 90, 91, 92, 93, 94, 95, 96, 97, 98, 99, 100, 101, 102, 103, 104, 105, 106, 107, 108, 109, 110, 111, 112, 113, 114, 115, 116, 117, 118, 119, 120, 121, 122, 123, 124, 125, 126, 127, 128, 129, 130, 131, 132, 137, 138, 139, 140, 141, 142, 143, 144, 145, 146, 147, 148, 149, 150, 151, 152, 153, 154, 155, 156, 157, 158, 159, 160, 161, 162, 163, 164, 165, 166, 167, 168, 169, 170, 171, 172, 173] (by decide +kernel) (by decide +kernel)) (goodIn_sub (fun _ h => List.mem_cons_of_mem _ (List.mem_append_left _ (List.mem_append_right _ h))) (by decide +kernel))) (goodIn_sub (fun _ h => List.mem_cons_of_mem _ (List.mem_append_right _ h)) (by decide +kernel))
set_option maxRecDepth 20000 in
theorem gX12_uses_X12_finds : GoodIn wsX12_uses (wsV RX12 211 RX12 yX12_finds wsX12_finds) := goodIn_app (goodIn_of _ (by decide +kernel)) ggX12_uses_X12_finds
set_option maxRecDepth 20000 in
theorem ggX12_uses_X12_usesOf : GoodIn wsX12_uses wsX12_usesOf := goodIn_ca (goodIn_r _ [136, 34, 107, 97, 137, 138, 139, 140, 141, 142, 143, 144, 145, 146, 147, 148, 149, 150, 151, 152, 153, 154, 155, 156, 157, 158, 159, 160, 161, 162, 163, 164, 165, 166, 167, 168, 169, 170, 171, 172, 173] (by decide +kernel) (by decide +kernel)) (goodIn_sub (fun _ h => List.mem_cons_of_mem _ (List.mem_append_left _ (List.mem_append_right _ h))) (by decide +kernel))
set_option maxRecDepth 20000 in
theorem gX12_uses_X12_usesOf : GoodIn wsX12_uses (wsV RX12 223 RX12 yX12_usesOf wsX12_usesOf) := goodIn_app (goodIn_of _ (by decide +kernel)) ggX12_uses_X12_usesOf
theorem dX12_uses_0 : decode cX12_uses 0 = .ok (.aload_n 0, 1) := by decide +kernel
theorem dX12_uses_1 : decode cX12_uses 1 = .ok (.iload_n 1, 1) := by decide +kernel
theorem dX12_uses_2 : decode cX12_uses 2 = .ok (.iconst 0, 1) := by decide +kernel
theorem dX12_uses_3 : decode cX12_uses 3 = .ok (.aload_n 0, 1) := by decide +kernel
theorem dX12_uses_4 : decode cX12_uses 4 = .ok (.getfield 121, 3) := by decide +kernel
theorem dX12_uses_7 : decode cX12_uses 7 = .ok (.iconst 1, 1) := by decide +kernel
theorem dX12_uses_8 : decode cX12_uses 8 = .ok (.isub, 1) := by decide +kernel
theorem dX12_uses_9 : decode cX12_uses 9 = .ok (.invokestatic 99, 3) := by decide +kernel
theorem dX12_uses_12 : decode cX12_uses 12 = .ok (.ifCond .eq 7, 3) := by decide +kernel
theorem dX12_uses_15 : decode cX12_uses 15 = .ok (.iconst 0, 1) := by decide +kernel
theorem dX12_uses_16 : decode cX12_uses 16 = .ok (.goto 4, 3) := by decide +kernel
theorem dX12_uses_19 : decode cX12_uses 19 = .ok (.iconst 1, 1) := by decide +kernel
theorem dX12_uses_20 : decode cX12_uses 20 = .ok (.putfield 89, 3) := by decide +kernel
theorem dX12_uses_23 : decode cX12_uses 23 = .ok (.aload_n 0, 1) := by decide +kernel
theorem dX12_uses_24 : decode cX12_uses 24 = .ok (.getfield 89, 3) := by decide +kernel
theorem dX12_uses_27 : decode cX12_uses 27 = .ok (.ifCond .le 5, 3) := by decide +kernel
theorem dX12_uses_30 : decode cX12_uses 30 = .ok (.iconst 0, 1) := by decide +kernel
theorem dX12_uses_31 : decode cX12_uses 31 = .ok (.ireturn, 1) := by decide +kernel
theorem dX12_uses_32 : decode cX12_uses 32 = .ok (.aload_n 0, 1) := by decide +kernel
theorem dX12_uses_33 : decode cX12_uses 33 = .ok (.invokevirtual 211, 3) := by decide +kernel
theorem dX12_uses_36 : decode cX12_uses 36 = .ok (.aload_n 0, 1) := by decide +kernel
theorem dX12_uses_37 : decode cX12_uses 37 = .ok (.iload_n 1, 1) := by decide +kernel
theorem dX12_uses_38 : decode cX12_uses 38 = .ok (.invokevirtual 223, 3) := by decide +kernel
theorem dX12_uses_41 : decode cX12_uses 41 = .ok (.ireturn, 1) := by decide +kernel
set_option maxRecDepth 20000 in
theorem ggX12_hasItems_X12_sumNow : GoodIn wsX12_hasItems wsX12_sumNow := goodIn_ca (goodIn_r _ [8, 3, 9, 10, 11, 12, 13, 7, 14, 15, 16, 60, 61, 62, 63, 64, 65, 66, 67, 68, 69, 70, 71, 72, 73, 74, 75, 76, 77, 78, 79, 80, 81, 82, 83, 84, 85, 86, 87, 88, 89, 90, 91, 92, 93, 94, 95, 96] (by decide +kernel) (by decide +kernel)) (goodIn_sub (fun _ h => List.mem_cons_of_mem _ (List.mem_append_right _ h)) (by decide +kernel))
set_option maxRecDepth 20000 in
theorem gX12_hasItems_X12_sumNow : GoodIn wsX12_hasItems (wsV RX12 117 RX12 yX12_sumNow wsX12_sumNow) := goodIn_app (goodIn_of _ (by decide +kernel)) ggX12_hasItems_X12_sumNow
set_option maxRecDepth 20000 in
theorem ggX12_hasItems_X12_looks : GoodIn wsX12_hasItems wsX12_looks := goodIn_ca (goodIn_r _ [14, 3, 15, 16, 10, 60, 61, 62, 63, 64, 65, 66, 67, 68, 69, 70, 71, 72, 73, 74, 75, 76, 77, 78, 79, 80, 81, 82, 83, 84, 85, 86, 87, 88, 89, 90, 91, 92, 93, 94, 95, 96] (by decide +kernel) (by decide +kernel)) (goodIn_sub (fun _ h => List.mem_cons_of_mem _ (List.mem_append_right _ h)) (by decide +kernel))
set_option maxRecDepth 20000 in
theorem gX12_hasItems_X12_looks : GoodIn wsX12_hasItems (wsV RX12 103 RX12 yX12_looks wsX12_looks) := goodIn_app (goodIn_of _ (by decide +kernel)) ggX12_hasItems_X12_looks
set_option maxRecDepth 20000 in
theorem ggX12_hasItems_X12_isGood : GoodIn wsX12_hasItems wsX12_isGood := goodIn_ca (goodIn_r _ [20, 1, 21, 22, 23, 7, 24, 3, 25, 26, 27, 28, 29, 30, 31, 32, 33, 34, 35, 36, 37, 38, 39, 40, 41, 42, 10, 43, 44, 45, 46, 2, 47, 48, 49, 50, 51, 52, 53, 54, 55, 56, 57, 58, 59, 9, 60, 61, 62, 63, 64, 65, 66, 67, 68, 69, 70, 71, 72, 73, 74, 75, 76, 77, 78, 79, 80, 81, 82, 83, 84, 85, 86, 87, 88, 89, 90, 91, 92, 93, 94, 95, 96] (by decide +kernel) (by decide +kernel)) (goodIn_sub (fun _ h => List.mem_cons_of_mem _ (List.mem_append_right _ h)) (by decide +kernel))
set_option maxRecDepth 20000 in
theorem gX12_hasItems_X12_isGood : GoodIn wsX12_hasItems (wsV RX12 194 RX12 yX12_isGood wsX12_isGood) := goodIn_app (goodIn_of _ (by decide +kernel)) ggX12_hasItems_X12_isGood
theorem dX12_hasItems_0 : decode cX12_hasItems 0 = .ok (.aload_n 0, 1) := by decide +kernel
theorem dX12_hasItems_1 : decode cX12_hasItems 1 = .ok (.getfield 26, 3) := by decide +kernel
theorem dX12_hasItems_4 : decode cX12_hasItems 4 = .ok (.iload_n 1, 1) := by decide +kernel
theorem dX12_hasItems_5 : decode cX12_hasItems 5 = .ok (.caload, 1) := by decide +kernel
theorem dX12_hasItems_6 : decode cX12_hasItems 6 = .ok (.bipush 116, 2) := by decide +kernel
theorem dX12_hasItems_8 : decode cX12_hasItems 8 = .ok (.if_icmp .ne 22, 3) := by decide +kernel
theorem dX12_hasItems_11 : decode cX12_hasItems 11 = .ok (.aload_n 0, 1) := by decide +kernel
theorem dX12_hasItems_12 : decode cX12_hasItems 12 = .ok (.invokevirtual 117, 3) := by decide +kernel
theorem dX12_hasItems_15 : decode cX12_hasItems 15 = .ok (.aload_n 0, 1) := by decide +kernel
theorem dX12_hasItems_16 : decode cX12_hasItems 16 = .ok (.getfield 29, 3) := by decide +kernel
theorem dX12_hasItems_19 : decode cX12_hasItems 19 = .ok (.iload_n 1, 1) := by decide +kernel
theorem dX12_hasItems_20 : decode cX12_hasItems 20 = .ok (.iaload, 1) := by decide +kernel
theorem dX12_hasItems_21 : decode cX12_hasItems 21 = .ok (.if_icmp .lt 7, 3) := by decide +kernel
theorem dX12_hasItems_24 : decode cX12_hasItems 24 = .ok (.iconst 1, 1) := by decide +kernel
theorem dX12_hasItems_25 : decode cX12_hasItems 25 = .ok (.goto 4, 3) := by decide +kernel
theorem dX12_hasItems_28 : decode cX12_hasItems 28 = .ok (.iconst 0, 1) := by decide +kernel
theorem dX12_hasItems_29 : decode cX12_hasItems 29 = .ok (.ireturn, 1) := by decide +kernel
theorem dX12_hasItems_30 : decode cX12_hasItems 30 = .ok (.aload_n 0, 1) := by decide +kernel
theorem dX12_hasItems_31 : decode cX12_hasItems 31 = .ok (.invokevirtual 103, 3) := by decide +kernel
theorem dX12_hasItems_34 : decode cX12_hasItems 34 = .ok (.iconst 0, 1) := by decide +kernel
theorem dX12_hasItems_35 : decode cX12_hasItems 35 = .ok (.istore_n 2, 1) := by decide +kernel
theorem dX12_hasItems_36 : decode cX12_hasItems 36 = .ok (.iconst 1, 1) := by decide +kernel
theorem dX12_hasItems_37 : decode cX12_hasItems 37 = .ok (.istore_n 3, 1) := by decide +kernel
theorem dX12_hasItems_38 : decode cX12_hasItems 38 = .ok (.iload_n 3, 1) := by decide +kernel
theorem dX12_hasItems_39 : decode cX12_hasItems 39 = .ok (.iconst 1, 1) := by decide +kernel
theorem dX12_hasItems_40 : decode cX12_hasItems 40 = .ok (.aload_n 0, 1) := by decide +kernel
theorem dX12_hasItems_41 : decode cX12_hasItems 41 = .ok (.getfield 93, 3) := by decide +kernel
theorem dX12_hasItems_44 : decode cX12_hasItems 44 = .ok (.ishl, 1) := by decide +kernel
theorem dX12_hasItems_45 : decode cX12_hasItems 45 = .ok (.if_icmp .ge 20, 3) := by decide +kernel
theorem dX12_hasItems_48 : decode cX12_hasItems 48 = .ok (.iload_n 2, 1) := by decide +kernel
theorem dX12_hasItems_49 : decode cX12_hasItems 49 = .ok (.ifCond .ne 16, 3) := by decide +kernel
theorem dX12_hasItems_52 : decode cX12_hasItems 52 = .ok (.aload_n 0, 1) := by decide +kernel
theorem dX12_hasItems_53 : decode cX12_hasItems 53 = .ok (.iload_n 1, 1) := by decide +kernel
theorem dX12_hasItems_54 : decode cX12_hasItems 54 = .ok (.iload_n 3, 1) := by decide +kernel
theorem dX12_hasItems_55 : decode cX12_hasItems 55 = .ok (.invokevirtual 194, 3) := by decide +kernel
theorem dX12_hasItems_58 : decode cX12_hasItems 58 = .ok (.istore_n 2, 1) := by decide +kernel
theorem dX12_hasItems_59 : decode cX12_hasItems 59 = .ok (.iinc 3 1, 3) := by decide +kernel
theorem dX12_hasItems_62 : decode cX12_hasItems 62 = .ok (.goto (-24), 3) := by decide +kernel
theorem dX12_hasItems_65 : decode cX12_hasItems 65 = .ok (.iload_n 2, 1) := by decide +kernel
theorem dX12_hasItems_66 : decode cX12_hasItems 66 = .ok (.ireturn, 1) := by decide +kernel
set_option maxRecDepth 20000 in
theorem ggX12_reason_X12_in : GoodIn wsX12_reason wsX12_in := goodIn_r _ [7] (by decide +kernel) (by decide +kernel)
set_option maxRecDepth 20000 in
theorem gX12_reason_X12_in : GoodIn wsX12_reason (va_wsS RX12 99 yX12_in wsX12_in) := goodIn_app (goodIn_of _ (by decide +kernel)) ggX12_reason_X12_in
set_option maxRecDepth 20000 in
theorem ggX12_reason_X12_finds : GoodIn wsX12_reason wsX12_finds := goodIn_ca (goodIn_ca (goodIn_r _ [11, 12, 1, 13, 14, 15, 16, 17, 18, 19, 6, 20, 21, 22, 23, 24, 25, 26, 27, 28, 29, 30, 31, 32, 33, 34, 35, 36, 37, 38, 39, 40, 41, 42, 43, 44, 45, 46, 47, 48, 49, 50, 51, 52, 53, 54, 55, 56, 57, 58, 59, 60, 61, 62, 63, 64, 65, 66, 67, 68, 69, 70, 71, 72, 73, 74, 75, 76, 77, 78, 79, 80, 81, 82, 83, 84, 85, 86, 87, 88, 89, 90, 91, 92, 93, 94, 95, 96, 97, 98, 99, 100, 101, 102, 103, 104, 105, 106, 3, 107, 108, 109, 110, 111, 112, 113, 114, 115, 116, 117, 118, 119, 120, 121, 122, 123, 124, 125, 126, 127, 128, 129, 130, 131, 132, 141, 142, 143, 144, 145, 146, 147, 148, 149, 150, 151, 152, 153, 154, 155, 156, 157, 158, 159, 160, 161, 162, 163, 164, 165, 166, 167, 168, 169, 170, 171, 172, 173, 174, 175, 176, 177] (by decide +kernel) (by decide +kernel)) (goodIn_sub (fun _ h => List.mem_cons_of_mem _ (List.mem_append_left _ (List.mem_append_right _ h))) (by decide +kernel))) (goodIn_sub (fun _ h => List.mem_cons_of_mem _ (List.mem_append_right _ h)) (by decide +kernel))
set_option maxRecDepth 20000 in
theorem gX12_reason_X12_finds : GoodIn wsX12_reason (wsV RX12 211 RX12 yX12_finds wsX12_finds) := goodIn_app (goodIn_of _ (by decide +kernel)) ggX12_reason_X12_finds
set_option maxRecDepth 20000 in
theorem ggX12_reason_X12_usesOf : GoodIn wsX12_reason wsX12_usesOf := goodIn_ca (goodIn_r _ [136, 35, 107, 98, 141, 142, 143, 144, 145, 146, 147, 148, 149, 150, 151, 152, 153, 154, 155, 156, 157, 158, 159, 160, 161, 162, 163, 164, 165, 166, 167, 168, 169, 170, 171, 172, 173, 174, 175, 176, 177] (by decide +kernel) (by decide +kernel)) (goodIn_sub (fun _ h => List.mem_cons_of_mem _ (List.mem_append_left _ (List.mem_append_right _ h))) (by decide +kernel))
set_option maxRecDepth 20000 in
theorem gX12_reason_X12_usesOf : GoodIn wsX12_reason (wsV RX12 223 RX12 yX12_usesOf wsX12_usesOf) := goodIn_app (goodIn_of _ (by decide +kernel)) ggX12_reason_X12_usesOf
set_option maxRecDepth 20000 in
theorem ggX12_reason_X12_leftOf : GoodIn wsX12_reason wsX12_leftOf := goodIn_ca (goodIn_r _ [43, 44, 45, 46, 141, 142, 143, 144, 145, 146, 147, 148, 149, 150, 151, 152, 153, 154, 155, 156, 157, 158, 159, 160, 161, 162, 163, 164, 165, 166, 167, 168, 169, 170, 171, 172, 173, 174, 175, 176, 177] (by decide +kernel) (by decide +kernel)) (goodIn_sub (fun _ h => List.mem_cons_of_mem _ (List.mem_append_left _ (List.mem_append_right _ h))) (by decide +kernel))
set_option maxRecDepth 20000 in
theorem gX12_reason_X12_leftOf : GoodIn wsX12_reason (wsV RX12 128 RX12 yX12_leftOf wsX12_leftOf) := goodIn_app (goodIn_of _ (by decide +kernel)) ggX12_reason_X12_leftOf
set_option maxRecDepth 20000 in
theorem ggX12_reason_X12_hasItems : GoodIn wsX12_reason wsX12_hasItems := goodIn_ca (goodIn_r _ [140, 35, 77, 21, 17, 18, 19, 6, 20, 22, 23, 24, 25, 26, 27, 28, 29, 47, 48, 49, 50, 51, 52, 53, 54, 55, 56, 57, 58, 59, 60, 61, 62, 63, 64, 65, 66, 67, 68, 69, 70, 71, 72, 73, 74, 75, 76, 78, 79, 80, 81, 82, 83, 38, 84, 85, 86, 87, 88, 89, 141, 142, 143, 144, 145, 146, 147, 148, 149, 150, 151, 152, 153, 154, 155, 156, 157, 158, 159, 160, 161, 162, 163, 164, 165, 166, 167, 168, 169, 170, 171, 172, 173, 174, 175, 176, 177] (by decide +kernel) (by decide +kernel)) (goodIn_sub (fun _ h => List.mem_cons_of_mem _ (List.mem_append_left _ (List.mem_append_right _ h))) (by decide +kernel))
set_option maxRecDepth 20000 in
theorem gX12_reason_X12_hasItems : GoodIn wsX12_reason (wsV RX12 226 RX12 yX12_hasItems wsX12_hasItems) := goodIn_app (goodIn_of _ (by decide +kernel)) ggX12_reason_X12_hasItems
theorem dX12_reason_0 : decode cX12_reason 0 = .ok (.aload_n 0, 1) := by decide +kernel
theorem dX12_reason_1 : decode cX12_reason 1 = .ok (.iload_n 1, 1) := by decide +kernel
theorem dX12_reason_2 : decode cX12_reason 2 = .ok (.iconst 0, 1) := by decide +kernel
theorem dX12_reason_3 : decode cX12_reason 3 = .ok (.aload_n 0, 1) := by decide +kernel
theorem dX12_reason_4 : decode cX12_reason 4 = .ok (.getfield 121, 3) := by decide +kernel
theorem dX12_reason_7 : decode cX12_reason 7 = .ok (.iconst 1, 1) := by decide +kernel
theorem dX12_reason_8 : decode cX12_reason 8 = .ok (.isub, 1) := by decide +kernel
theorem dX12_reason_9 : decode cX12_reason 9 = .ok (.invokestatic 99, 3) := by decide +kernel
theorem dX12_reason_12 : decode cX12_reason 12 = .ok (.ifCond .eq 7, 3) := by decide +kernel
theorem dX12_reason_15 : decode cX12_reason 15 = .ok (.iconst 0, 1) := by decide +kernel
theorem dX12_reason_16 : decode cX12_reason 16 = .ok (.goto 4, 3) := by decide +kernel
theorem dX12_reason_19 : decode cX12_reason 19 = .ok (.iconst 1, 1) := by decide +kernel
theorem dX12_reason_20 : decode cX12_reason 20 = .ok (.putfield 89, 3) := by decide +kernel
theorem dX12_reason_23 : decode cX12_reason 23 = .ok (.aload_n 0, 1) := by decide +kernel
theorem dX12_reason_24 : decode cX12_reason 24 = .ok (.getfield 89, 3) := by decide +kernel
theorem dX12_reason_27 : decode cX12_reason 27 = .ok (.ifCond .le 6, 3) := by decide +kernel
theorem dX12_reason_30 : decode cX12_reason 30 = .ok (.bipush 97, 2) := by decide +kernel
theorem dX12_reason_32 : decode cX12_reason 32 = .ok (.ireturn, 1) := by decide +kernel
theorem dX12_reason_33 : decode cX12_reason 33 = .ok (.aload_n 0, 1) := by decide +kernel
theorem dX12_reason_34 : decode cX12_reason 34 = .ok (.invokevirtual 211, 3) := by decide +kernel
theorem dX12_reason_37 : decode cX12_reason 37 = .ok (.iconst 0, 1) := by decide +kernel
theorem dX12_reason_38 : decode cX12_reason 38 = .ok (.istore_n 2, 1) := by decide +kernel
theorem dX12_reason_39 : decode cX12_reason 39 = .ok (.iconst 0, 1) := by decide +kernel
theorem dX12_reason_40 : decode cX12_reason 40 = .ok (.istore_n 3, 1) := by decide +kernel
theorem dX12_reason_41 : decode cX12_reason 41 = .ok (.iload_n 3, 1) := by decide +kernel
theorem dX12_reason_42 : decode cX12_reason 42 = .ok (.aload_n 0, 1) := by decide +kernel
theorem dX12_reason_43 : decode cX12_reason 43 = .ok (.getfield 121, 3) := by decide +kernel
theorem dX12_reason_46 : decode cX12_reason 46 = .ok (.if_icmp .ge 57, 3) := by decide +kernel
theorem dX12_reason_49 : decode cX12_reason 49 = .ok (.iload_n 2, 1) := by decide +kernel
theorem dX12_reason_50 : decode cX12_reason 50 = .ok (.ifCond .ne 41, 3) := by decide +kernel
theorem dX12_reason_53 : decode cX12_reason 53 = .ok (.iload_n 3, 1) := by decide +kernel
theorem dX12_reason_54 : decode cX12_reason 54 = .ok (.iload_n 1, 1) := by decide +kernel
theorem dX12_reason_55 : decode cX12_reason 55 = .ok (.if_icmp .eq 40, 3) := by decide +kernel
theorem dX12_reason_58 : decode cX12_reason 58 = .ok (.aload_n 0, 1) := by decide +kernel
theorem dX12_reason_59 : decode cX12_reason 59 = .ok (.getfield 44, 3) := by decide +kernel
theorem dX12_reason_62 : decode cX12_reason 62 = .ok (.iload_n 1, 1) := by decide +kernel
theorem dX12_reason_63 : decode cX12_reason 63 = .ok (.iaload, 1) := by decide +kernel
theorem dX12_reason_64 : decode cX12_reason 64 = .ok (.iconst (-1), 1) := by decide +kernel
theorem dX12_reason_65 : decode cX12_reason 65 = .ok (.if_icmp .eq 30, 3) := by decide +kernel
theorem dX12_reason_68 : decode cX12_reason 68 = .ok (.aload_n 0, 1) := by decide +kernel
theorem dX12_reason_69 : decode cX12_reason 69 = .ok (.getfield 44, 3) := by decide +kernel
theorem dX12_reason_72 : decode cX12_reason 72 = .ok (.iload_n 3, 1) := by decide +kernel
theorem dX12_reason_73 : decode cX12_reason 73 = .ok (.iaload, 1) := by decide +kernel
theorem dX12_reason_74 : decode cX12_reason 74 = .ok (.aload_n 0, 1) := by decide +kernel
theorem dX12_reason_75 : decode cX12_reason 75 = .ok (.getfield 44, 3) := by decide +kernel
theorem dX12_reason_78 : decode cX12_reason 78 = .ok (.iload_n 1, 1) := by decide +kernel
theorem dX12_reason_79 : decode cX12_reason 79 = .ok (.iaload, 1) := by decide +kernel
theorem dX12_reason_80 : decode cX12_reason 80 = .ok (.if_icmp .ne 15, 3) := by decide +kernel
theorem dX12_reason_83 : decode cX12_reason 83 = .ok (.aload_n 0, 1) := by decide +kernel
theorem dX12_reason_84 : decode cX12_reason 84 = .ok (.iload_n 3, 1) := by decide +kernel
theorem dX12_reason_85 : decode cX12_reason 85 = .ok (.invokevirtual 223, 3) := by decide +kernel
theorem dX12_reason_88 : decode cX12_reason 88 = .ok (.ifCond .le 7, 3) := by decide +kernel
theorem dX12_reason_91 : decode cX12_reason 91 = .ok (.iconst 1, 1) := by decide +kernel
theorem dX12_reason_92 : decode cX12_reason 92 = .ok (.goto 4, 3) := by decide +kernel
theorem dX12_reason_95 : decode cX12_reason 95 = .ok (.iconst 0, 1) := by decide +kernel
theorem dX12_reason_96 : decode cX12_reason 96 = .ok (.istore_n 2, 1) := by decide +kernel
theorem dX12_reason_97 : decode cX12_reason 97 = .ok (.iinc 3 1, 3) := by decide +kernel
theorem dX12_reason_100 : decode cX12_reason 100 = .ok (.goto (-59), 3) := by decide +kernel
theorem dX12_reason_103 : decode cX12_reason 103 = .ok (.aload_n 0, 1) := by decide +kernel
theorem dX12_reason_104 : decode cX12_reason 104 = .ok (.iload_n 1, 1) := by decide +kernel
theorem dX12_reason_105 : decode cX12_reason 105 = .ok (.invokevirtual 223, 3) := by decide +kernel
theorem dX12_reason_108 : decode cX12_reason 108 = .ok (.ifCond .le 8, 3) := by decide +kernel
theorem dX12_reason_111 : decode cX12_reason 111 = .ok (.bipush 117, 2) := by decide +kernel
theorem dX12_reason_113 : decode cX12_reason 113 = .ok (.goto 40, 3) := by decide +kernel
theorem dX12_reason_116 : decode cX12_reason 116 = .ok (.aload_n 0, 1) := by decide +kernel
theorem dX12_reason_117 : decode cX12_reason 117 = .ok (.iload_n 1, 1) := by decide +kernel
theorem dX12_reason_118 : decode cX12_reason 118 = .ok (.invokevirtual 128, 3) := by decide +kernel
theorem dX12_reason_121 : decode cX12_reason 121 = .ok (.ifCond .ne 8, 3) := by decide +kernel
theorem dX12_reason_124 : decode cX12_reason 124 = .ok (.bipush 108, 2) := by decide +kernel
theorem dX12_reason_126 : decode cX12_reason 126 = .ok (.goto 27, 3) := by decide +kernel
theorem dX12_reason_129 : decode cX12_reason 129 = .ok (.aload_n 0, 1) := by decide +kernel
theorem dX12_reason_130 : decode cX12_reason 130 = .ok (.iload_n 1, 1) := by decide +kernel
theorem dX12_reason_131 : decode cX12_reason 131 = .ok (.invokevirtual 226, 3) := by decide +kernel
theorem dX12_reason_134 : decode cX12_reason 134 = .ok (.ifCond .ne 8, 3) := by decide +kernel
theorem dX12_reason_137 : decode cX12_reason 137 = .ok (.bipush 99, 2) := by decide +kernel
theorem dX12_reason_139 : decode cX12_reason 139 = .ok (.goto 14, 3) := by decide +kernel
theorem dX12_reason_142 : decode cX12_reason 142 = .ok (.iload_n 2, 1) := by decide +kernel
theorem dX12_reason_143 : decode cX12_reason 143 = .ok (.ifCond .eq 8, 3) := by decide +kernel
theorem dX12_reason_146 : decode cX12_reason 146 = .ok (.bipush 103, 2) := by decide +kernel
theorem dX12_reason_148 : decode cX12_reason 148 = .ok (.goto 5, 3) := by decide +kernel
theorem dX12_reason_151 : decode cX12_reason 151 = .ok (.bipush 98, 2) := by decide +kernel
theorem dX12_reason_153 : decode cX12_reason 153 = .ok (.ireturn, 1) := by decide +kernel
set_option maxRecDepth 20000 in
theorem ggX12_netPrice_X12_isInBasket : GoodIn wsX12_netPrice wsX12_isInBasket := goodIn_ca (goodIn_r _ [7, 8, 9, 10, 11, 6, 12, 137, 138, 139, 140, 141, 142, 143, 144, 145, 146, 147, 148, 149, 150, 151, 152, 153, 154, 155, 156, 157, 158, 159, 160, 161, 162, 163, 164, 165, 166, 167, 168, 169, 170, 171, 172, 173] (by decide +kernel) (by decide +kernel)) (goodIn_sub (fun _ h => List.mem_cons_of_mem _ (List.mem_append_left _ (List.mem_append_right _ h))) (by decide +kernel))
set_option maxRecDepth 20000 in
theorem gX12_netPrice_X12_isInBasket : GoodIn wsX12_netPrice (wsV RX12 110 RX12 yX12_isInBasket wsX12_isInBasket) := goodIn_app (goodIn_of _ (by decide +kernel)) ggX12_netPrice_X12_isInBasket
set_option maxRecDepth 20000 in
theorem ggX12_netPrice_X12_finds : GoodIn wsX12_netPrice wsX12_finds := goodIn_ca (goodIn_ca (goodIn_r _ [16, 17, 18, 19, 20, 21, 22, 23, 24, 25, 6, 26, 27, 28, 29, 30, 31, 32, 33, 8, 9, 34, 35, 36, 37, 38, 39, 40, 41, 42, 43, 44, 45, 46, 47, 48, 49, 50, 51, 52, 53, 54, 55, 56, 57, 58, 59, 60, 61, 62, 63, 64, 65, 66, 67, 68, 69, 70, 71, 72, 73, 74, 75, 76, 77, 78, 79, 80, 81, 82, 83, 84, 85, 86, 87, 88, 89, 90, 91, 92, 93, 94, 95, 96, 97, 98, 99, 100, 101, 102, 103, 104, 105, 106, 107, 108, 109, 110, 111, 112, 113, 114, 115, 116, 117, 118, 119, 120, 121, 122, 123, 124, 125, 126, 127, 128, 129, 130, 131, 132, 133, 134, 135, 136, 2, 137, 138, 139, 140, 141, 142, 143, 144, 145, 146, 147, 148, 149, 150, 151, 152, 153, 154, 155, 156, 157, 158, 159, 160, 161, 162, 163, 164, 165, 166, 167, 168, 169, 170, 171, 172, 173] (by decide +kernel) (by decide +kernel)) (goodIn_sub (fun _ h => List.mem_cons_of_mem _ (List.mem_append_left _ (List.mem_append_right _ h))) (by decide +kernel))) (goodIn_sub (fun _ h => List.mem_cons_of_mem _ (List.mem_append_right _ h)) (by decide +kernel))
