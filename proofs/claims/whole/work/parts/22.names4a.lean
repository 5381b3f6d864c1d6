theorem dX12_adds_75 : decode cX12_adds 75 = .ok (.iload_n 2, 1) := by decide +kernel
theorem dX12_adds_76 : decode cX12_adds 76 = .ok (.iastore, 1) := by decide +kernel
theorem dX12_adds_77 : decode cX12_adds 77 = .ok (.aload_n 0, 1) := by decide +kernel
theorem dX12_adds_78 : decode cX12_adds 78 = .ok (.getfield 32, 3) := by decide +kernel
theorem dX12_adds_81 : decode cX12_adds 81 = .ok (.aload_n 0, 1) := by decide +kernel
theorem dX12_adds_82 : decode cX12_adds 82 = .ok (.getfield 121, 3) := by decide +kernel
theorem dX12_adds_85 : decode cX12_adds 85 = .ok (.iload_n 3, 1) := by decide +kernel
theorem dX12_adds_86 : decode cX12_adds 86 = .ok (.iastore, 1) := by decide +kernel
theorem dX12_adds_87 : decode cX12_adds 87 = .ok (.aload_n 0, 1) := by decide +kernel
theorem dX12_adds_88 : decode cX12_adds 88 = .ok (.getfield 35, 3) := by decide +kernel
theorem dX12_adds_91 : decode cX12_adds 91 = .ok (.aload_n 0, 1) := by decide +kernel
theorem dX12_adds_92 : decode cX12_adds 92 = .ok (.getfield 121, 3) := by decide +kernel
theorem dX12_adds_95 : decode cX12_adds 95 = .ok (.iload 4, 2) := by decide +kernel
theorem dX12_adds_97 : decode cX12_adds 97 = .ok (.iastore, 1) := by decide +kernel
theorem dX12_adds_98 : decode cX12_adds 98 = .ok (.aload_n 0, 1) := by decide +kernel
theorem dX12_adds_99 : decode cX12_adds 99 = .ok (.getfield 41, 3) := by decide +kernel
theorem dX12_adds_102 : decode cX12_adds 102 = .ok (.aload_n 0, 1) := by decide +kernel
theorem dX12_adds_103 : decode cX12_adds 103 = .ok (.getfield 121, 3) := by decide +kernel
theorem dX12_adds_106 : decode cX12_adds 106 = .ok (.iload 6, 2) := by decide +kernel
theorem dX12_adds_108 : decode cX12_adds 108 = .ok (.iastore, 1) := by decide +kernel
theorem dX12_adds_109 : decode cX12_adds 109 = .ok (.aload_n 0, 1) := by decide +kernel
theorem dX12_adds_110 : decode cX12_adds 110 = .ok (.getfield 44, 3) := by decide +kernel
theorem dX12_adds_113 : decode cX12_adds 113 = .ok (.aload_n 0, 1) := by decide +kernel
theorem dX12_adds_114 : decode cX12_adds 114 = .ok (.getfield 121, 3) := by decide +kernel
theorem dX12_adds_117 : decode cX12_adds 117 = .ok (.iload 7, 2) := by decide +kernel
theorem dX12_adds_119 : decode cX12_adds 119 = .ok (.iastore, 1) := by decide +kernel
theorem dX12_adds_120 : decode cX12_adds 120 = .ok (.aload_n 0, 1) := by decide +kernel
theorem dX12_adds_121 : decode cX12_adds 121 = .ok (.dup, 1) := by decide +kernel
theorem dX12_adds_122 : decode cX12_adds 122 = .ok (.getfield 121, 3) := by decide +kernel
theorem dX12_adds_125 : decode cX12_adds 125 = .ok (.iconst 1, 1) := by decide +kernel
theorem dX12_adds_126 : decode cX12_adds 126 = .ok (.iadd, 1) := by decide +kernel
theorem dX12_adds_127 : decode cX12_adds 127 = .ok (.putfield 121, 3) := by decide +kernel
theorem dX12_adds_130 : decode cX12_adds 130 = .ok (.aload_n 0, 1) := by decide +kernel
theorem dX12_adds_131 : decode cX12_adds 131 = .ok (.iconst 0, 1) := by decide +kernel
theorem dX12_adds_132 : decode cX12_adds 132 = .ok (.putfield 106, 3) := by decide +kernel
theorem dX12_adds_135 : decode cX12_adds 135 = .ok (.aload_n 0, 1) := by decide +kernel
theorem dX12_adds_136 : decode cX12_adds 136 = .ok (.getfield 121, 3) := by decide +kernel
theorem dX12_adds_139 : decode cX12_adds 139 = .ok (.iconst 1, 1) := by decide +kernel
theorem dX12_adds_140 : decode cX12_adds 140 = .ok (.isub, 1) := by decide +kernel
theorem dX12_adds_141 : decode cX12_adds 141 = .ok (.ireturn, 1) := by decide +kernel
set_option maxRecDepth 20000 in
theorem ggX12_addPercentage_X12_in : GoodIn wsX12_addPercentage wsX12_in := goodIn_r _ [4] (by decide +kernel) (by decide +kernel)
set_option maxRecDepth 20000 in
theorem gX12_addPercentage_X12_in : GoodIn wsX12_addPercentage (va_wsS RX12 99 yX12_in wsX12_in) := goodIn_app (goodIn_of _ (by decide +kernel)) ggX12_addPercentage_X12_in
set_option maxRecDepth 20000 in
theorem ggX12_addPercentage_X12_adds : GoodIn wsX12_addPercentage wsX12_adds := goodIn_ca (goodIn_r _ [8, 9, 10, 11, 12, 13, 14, 15, 16, 17, 1, 2, 3, 4, 18, 19, 20, 21, 22, 23, 24, 25, 26, 27, 28, 29, 30, 31, 32, 33, 34, 35, 36, 37, 38, 39, 40, 41, 42, 43, 44, 45, 46, 47, 48, 49, 50, 51, 52, 53, 54] (by decide +kernel) (by decide +kernel)) (goodIn_sub (fun _ h => List.mem_cons_of_mem _ (List.mem_append_right _ h)) (by decide +kernel))
set_option maxRecDepth 20000 in
theorem gX12_addPercentage_X12_adds : GoodIn wsX12_addPercentage (wsV RX12 124 RX12 yX12_adds wsX12_adds) := goodIn_app (goodIn_of _ (by decide +kernel)) ggX12_addPercentage_X12_adds
theorem dX12_addPercentage_0 : decode cX12_addPercentage 0 = .ok (.aload_n 0, 1) := by decide +kernel
theorem dX12_addPercentage_1 : decode cX12_addPercentage 1 = .ok (.bipush 112, 2) := by decide +kernel
theorem dX12_addPercentage_3 : decode cX12_addPercentage 3 = .ok (.iload_n 1, 1) := by decide +kernel
theorem dX12_addPercentage_4 : decode cX12_addPercentage 4 = .ok (.iload_n 2, 1) := by decide +kernel
theorem dX12_addPercentage_5 : decode cX12_addPercentage 5 = .ok (.iconst (-1), 1) := by decide +kernel
theorem dX12_addPercentage_6 : decode cX12_addPercentage 6 = .ok (.iload_n 1, 1) := by decide +kernel
theorem dX12_addPercentage_7 : decode cX12_addPercentage 7 = .ok (.iconst 0, 1) := by decide +kernel
theorem dX12_addPercentage_8 : decode cX12_addPercentage 8 = .ok (.bipush 9, 2) := by decide +kernel
theorem dX12_addPercentage_10 : decode cX12_addPercentage 10 = .ok (.invokestatic 99, 3) := by decide +kernel
theorem dX12_addPercentage_13 : decode cX12_addPercentage 13 = .ok (.ifCond .eq 17, 3) := by decide +kernel
theorem dX12_addPercentage_16 : decode cX12_addPercentage 16 = .ok (.iload_n 2, 1) := by decide +kernel
theorem dX12_addPercentage_17 : decode cX12_addPercentage 17 = .ok (.iconst 1, 1) := by decide +kernel
theorem dX12_addPercentage_18 : decode cX12_addPercentage 18 = .ok (.bipush 90, 2) := by decide +kernel
theorem dX12_addPercentage_20 : decode cX12_addPercentage 20 = .ok (.invokestatic 99, 3) := by decide +kernel
theorem dX12_addPercentage_23 : decode cX12_addPercentage 23 = .ok (.ifCond .eq 7, 3) := by decide +kernel
theorem dX12_addPercentage_26 : decode cX12_addPercentage 26 = .ok (.iconst 1, 1) := by decide +kernel
theorem dX12_addPercentage_27 : decode cX12_addPercentage 27 = .ok (.goto 4, 3) := by decide +kernel
theorem dX12_addPercentage_30 : decode cX12_addPercentage 30 = .ok (.iconst 0, 1) := by decide +kernel
theorem dX12_addPercentage_31 : decode cX12_addPercentage 31 = .ok (.iload_n 3, 1) := by decide +kernel
theorem dX12_addPercentage_32 : decode cX12_addPercentage 32 = .ok (.iload 4, 2) := by decide +kernel
theorem dX12_addPercentage_34 : decode cX12_addPercentage 34 = .ok (.invokevirtual 124, 3) := by decide +kernel
theorem dX12_addPercentage_37 : decode cX12_addPercentage 37 = .ok (.ireturn, 1) := by decide +kernel
set_option maxRecDepth 20000 in
theorem ggX12_addFreeItem_X12_in : GoodIn wsX12_addFreeItem wsX12_in := goodIn_r _ [4] (by decide +kernel) (by decide +kernel)
set_option maxRecDepth 20000 in
theorem gX12_addFreeItem_X12_in : GoodIn wsX12_addFreeItem (va_wsS RX12 99 yX12_in wsX12_in) := goodIn_app (goodIn_of _ (by decide +kernel)) ggX12_addFreeItem_X12_in
set_option maxRecDepth 20000 in
theorem ggX12_addFreeItem_X12_adds : GoodIn wsX12_addFreeItem wsX12_adds := goodIn_ca (goodIn_r _ [8, 9, 10, 11, 12, 13, 14, 15, 16, 17, 1, 2, 3, 4, 18, 19, 20, 21, 22, 23, 24, 25, 26, 27, 28, 29, 30, 31, 32, 33, 34, 35, 36, 37, 38, 39, 40, 41, 42, 43, 44, 45, 46, 47, 48, 49, 50, 51, 52, 53, 54] (by decide +kernel) (by decide +kernel)) (goodIn_sub (fun _ h => List.mem_cons_of_mem _ (List.mem_append_right _ h)) (by decide +kernel))
set_option maxRecDepth 20000 in
theorem gX12_addFreeItem_X12_adds : GoodIn wsX12_addFreeItem (wsV RX12 124 RX12 yX12_adds wsX12_adds) := goodIn_app (goodIn_of _ (by decide +kernel)) ggX12_addFreeItem_X12_adds
theorem dX12_addFreeItem_0 : decode cX12_addFreeItem 0 = .ok (.aload_n 0, 1) := by decide +kernel
theorem dX12_addFreeItem_1 : decode cX12_addFreeItem 1 = .ok (.bipush 102, 2) := by decide +kernel
theorem dX12_addFreeItem_3 : decode cX12_addFreeItem 3 = .ok (.iload_n 1, 1) := by decide +kernel
theorem dX12_addFreeItem_4 : decode cX12_addFreeItem 4 = .ok (.iload_n 2, 1) := by decide +kernel
theorem dX12_addFreeItem_5 : decode cX12_addFreeItem 5 = .ok (.iconst (-1), 1) := by decide +kernel
theorem dX12_addFreeItem_6 : decode cX12_addFreeItem 6 = .ok (.iload_n 1, 1) := by decide +kernel
theorem dX12_addFreeItem_7 : decode cX12_addFreeItem 7 = .ok (.iconst 0, 1) := by decide +kernel
theorem dX12_addFreeItem_8 : decode cX12_addFreeItem 8 = .ok (.bipush 9, 2) := by decide +kernel
theorem dX12_addFreeItem_10 : decode cX12_addFreeItem 10 = .ok (.invokestatic 99, 3) := by decide +kernel
theorem dX12_addFreeItem_13 : decode cX12_addFreeItem 13 = .ok (.ifCond .eq 16, 3) := by decide +kernel
theorem dX12_addFreeItem_16 : decode cX12_addFreeItem 16 = .ok (.iload_n 2, 1) := by decide +kernel
theorem dX12_addFreeItem_17 : decode cX12_addFreeItem 17 = .ok (.iconst 2, 1) := by decide +kernel
theorem dX12_addFreeItem_18 : decode cX12_addFreeItem 18 = .ok (.iconst 5, 1) := by decide +kernel
theorem dX12_addFreeItem_19 : decode cX12_addFreeItem 19 = .ok (.invokestatic 99, 3) := by decide +kernel
theorem dX12_addFreeItem_22 : decode cX12_addFreeItem 22 = .ok (.ifCond .eq 7, 3) := by decide +kernel
theorem dX12_addFreeItem_25 : decode cX12_addFreeItem 25 = .ok (.iconst 1, 1) := by decide +kernel
theorem dX12_addFreeItem_26 : decode cX12_addFreeItem 26 = .ok (.goto 4, 3) := by decide +kernel
theorem dX12_addFreeItem_29 : decode cX12_addFreeItem 29 = .ok (.iconst 0, 1) := by decide +kernel
theorem dX12_addFreeItem_30 : decode cX12_addFreeItem 30 = .ok (.iload_n 3, 1) := by decide +kernel
theorem dX12_addFreeItem_31 : decode cX12_addFreeItem 31 = .ok (.iload 4, 2) := by decide +kernel
theorem dX12_addFreeItem_33 : decode cX12_addFreeItem 33 = .ok (.invokevirtual 124, 3) := by decide +kernel
theorem dX12_addFreeItem_36 : decode cX12_addFreeItem 36 = .ok (.ireturn, 1) := by decide +kernel
set_option maxRecDepth 20000 in
theorem ggX12_addBundle_X12_in : GoodIn wsX12_addBundle wsX12_in := goodIn_r _ [6] (by decide +kernel) (by decide +kernel)
set_option maxRecDepth 20000 in
theorem gX12_addBundle_X12_in : GoodIn wsX12_addBundle (va_wsS RX12 99 yX12_in wsX12_in) := goodIn_app (goodIn_of _ (by decide +kernel)) ggX12_addBundle_X12_in
set_option maxRecDepth 20000 in
theorem ggX12_addBundle_X12_adds : GoodIn wsX12_addBundle wsX12_adds := goodIn_ca (goodIn_r _ [10, 11, 1, 12, 13, 14, 15, 16, 17, 18, 3, 4, 5, 6, 19, 20, 21, 22, 23, 24, 25, 26, 27, 28, 29, 30, 31, 32, 33, 34, 35, 36, 37, 38, 39, 40, 41, 42, 43, 44, 45, 46, 47, 48, 49, 50, 51, 52, 53, 54, 55] (by decide +kernel) (by decide +kernel)) (goodIn_sub (fun _ h => List.mem_cons_of_mem _ (List.mem_append_right _ h)) (by decide +kernel))
set_option maxRecDepth 20000 in
theorem gX12_addBundle_X12_adds : GoodIn wsX12_addBundle (wsV RX12 124 RX12 yX12_adds wsX12_adds) := goodIn_app (goodIn_of _ (by decide +kernel)) ggX12_addBundle_X12_adds
theorem dX12_addBundle_0 : decode cX12_addBundle 0 = .ok (.iload_n 1, 1) := by decide +kernel
theorem dX12_addBundle_1 : decode cX12_addBundle 1 = .ok (.iconst 0, 1) := by decide +kernel
theorem dX12_addBundle_2 : decode cX12_addBundle 2 = .ok (.bipush 9, 2) := by decide +kernel
theorem dX12_addBundle_4 : decode cX12_addBundle 4 = .ok (.invokestatic 99, 3) := by decide +kernel
theorem dX12_addBundle_7 : decode cX12_addBundle 7 = .ok (.ifCond .eq 39, 3) := by decide +kernel
theorem dX12_addBundle_10 : decode cX12_addBundle 10 = .ok (.iload_n 2, 1) := by decide +kernel
theorem dX12_addBundle_11 : decode cX12_addBundle 11 = .ok (.iconst 0, 1) := by decide +kernel
theorem dX12_addBundle_12 : decode cX12_addBundle 12 = .ok (.bipush 9, 2) := by decide +kernel
theorem dX12_addBundle_14 : decode cX12_addBundle 14 = .ok (.invokestatic 99, 3) := by decide +kernel
theorem dX12_addBundle_17 : decode cX12_addBundle 17 = .ok (.ifCond .eq 29, 3) := by decide +kernel
theorem dX12_addBundle_20 : decode cX12_addBundle 20 = .ok (.iload_n 3, 1) := by decide +kernel
theorem dX12_addBundle_21 : decode cX12_addBundle 21 = .ok (.iconst (-1), 1) := by decide +kernel
theorem dX12_addBundle_22 : decode cX12_addBundle 22 = .ok (.bipush 9, 2) := by decide +kernel
theorem dX12_addBundle_24 : decode cX12_addBundle 24 = .ok (.invokestatic 99, 3) := by decide +kernel
theorem dX12_addBundle_27 : decode cX12_addBundle 27 = .ok (.ifCond .eq 19, 3) := by decide +kernel
theorem dX12_addBundle_30 : decode cX12_addBundle 30 = .ok (.iload 4, 2) := by decide +kernel
theorem dX12_addBundle_32 : decode cX12_addBundle 32 = .ok (.iconst 1, 1) := by decide +kernel
theorem dX12_addBundle_33 : decode cX12_addBundle 33 = .ok (.sipush 9999, 3) := by decide +kernel
theorem dX12_addBundle_36 : decode cX12_addBundle 36 = .ok (.invokestatic 99, 3) := by decide +kernel
theorem dX12_addBundle_39 : decode cX12_addBundle 39 = .ok (.ifCond .eq 7, 3) := by decide +kernel
theorem dX12_addBundle_42 : decode cX12_addBundle 42 = .ok (.iconst 1, 1) := by decide +kernel
theorem dX12_addBundle_43 : decode cX12_addBundle 43 = .ok (.goto 4, 3) := by decide +kernel
theorem dX12_addBundle_46 : decode cX12_addBundle 46 = .ok (.iconst 0, 1) := by decide +kernel
theorem dX12_addBundle_47 : decode cX12_addBundle 47 = .ok (.istore 7, 2) := by decide +kernel
theorem dX12_addBundle_49 : decode cX12_addBundle 49 = .ok (.aload_n 0, 1) := by decide +kernel
theorem dX12_addBundle_50 : decode cX12_addBundle 50 = .ok (.bipush 98, 2) := by decide +kernel
theorem dX12_addBundle_52 : decode cX12_addBundle 52 = .ok (.iload_n 1, 1) := by decide +kernel
theorem dX12_addBundle_53 : decode cX12_addBundle 53 = .ok (.iload_n 2, 1) := by decide +kernel
theorem dX12_addBundle_54 : decode cX12_addBundle 54 = .ok (.iload_n 3, 1) := by decide +kernel
theorem dX12_addBundle_55 : decode cX12_addBundle 55 = .ok (.iload 7, 2) := by decide +kernel
theorem dX12_addBundle_57 : decode cX12_addBundle 57 = .ok (.iload 5, 2) := by decide +kernel
theorem dX12_addBundle_59 : decode cX12_addBundle 59 = .ok (.iload 6, 2) := by decide +kernel
theorem dX12_addBundle_61 : decode cX12_addBundle 61 = .ok (.invokevirtual 124, 3) := by decide +kernel
theorem dX12_addBundle_64 : decode cX12_addBundle 64 = .ok (.istore 8, 2) := by decide +kernel
theorem dX12_addBundle_66 : decode cX12_addBundle 66 = .ok (.aload_n 0, 1) := by decide +kernel
theorem dX12_addBundle_67 : decode cX12_addBundle 67 = .ok (.getfield 89, 3) := by decide +kernel
theorem dX12_addBundle_70 : decode cX12_addBundle 70 = .ok (.ifCond .ne 12, 3) := by decide +kernel
theorem dX12_addBundle_73 : decode cX12_addBundle 73 = .ok (.aload_n 0, 1) := by decide +kernel
theorem dX12_addBundle_74 : decode cX12_addBundle 74 = .ok (.getfield 38, 3) := by decide +kernel
theorem dX12_addBundle_77 : decode cX12_addBundle 77 = .ok (.iload 8, 2) := by decide +kernel
theorem dX12_addBundle_79 : decode cX12_addBundle 79 = .ok (.iload 4, 2) := by decide +kernel
theorem dX12_addBundle_81 : decode cX12_addBundle 81 = .ok (.iastore, 1) := by decide +kernel
theorem dX12_addBundle_82 : decode cX12_addBundle 82 = .ok (.iload 8, 2) := by decide +kernel
theorem dX12_addBundle_84 : decode cX12_addBundle 84 = .ok (.ireturn, 1) := by decide +kernel
set_option maxRecDepth 20000 in
theorem ggX12_addThreshold_X12_in : GoodIn wsX12_addThreshold wsX12_in := goodIn_r _ [4] (by decide +kernel) (by decide +kernel)
set_option maxRecDepth 20000 in
theorem gX12_addThreshold_X12_in : GoodIn wsX12_addThreshold (va_wsS RX12 99 yX12_in wsX12_in) := goodIn_app (goodIn_of _ (by decide +kernel)) ggX12_addThreshold_X12_in
set_option maxRecDepth 20000 in
theorem ggX12_addThreshold_X12_adds : GoodIn wsX12_addThreshold wsX12_adds := goodIn_ca (goodIn_r _ [8, 9, 10, 11, 12, 13, 14, 15, 16, 17, 1, 2, 3, 4, 18, 19, 20, 21, 22, 23, 24, 25, 26, 27, 28, 29, 30, 31, 32, 33, 34, 35, 36, 37, 38, 39, 40, 41, 42, 43, 44, 45, 46, 47, 48, 49, 50, 51, 52, 53, 54] (by decide +kernel) (by decide +kernel)) (goodIn_sub (fun _ h => List.mem_cons_of_mem _ (List.mem_append_right _ h)) (by decide +kernel))
set_option maxRecDepth 20000 in
theorem gX12_addThreshold_X12_adds : GoodIn wsX12_addThreshold (wsV RX12 124 RX12 yX12_adds wsX12_adds) := goodIn_app (goodIn_of _ (by decide +kernel)) ggX12_addThreshold_X12_adds
theorem dX12_addThreshold_0 : decode cX12_addThreshold 0 = .ok (.aload_n 0, 1) := by decide +kernel
theorem dX12_addThreshold_1 : decode cX12_addThreshold 1 = .ok (.bipush 116, 2) := by decide +kernel
theorem dX12_addThreshold_3 : decode cX12_addThreshold 3 = .ok (.iload_n 1, 1) := by decide +kernel
theorem dX12_addThreshold_4 : decode cX12_addThreshold 4 = .ok (.iload_n 2, 1) := by decide +kernel
theorem dX12_addThreshold_5 : decode cX12_addThreshold 5 = .ok (.iconst (-1), 1) := by decide +kernel
theorem dX12_addThreshold_6 : decode cX12_addThreshold 6 = .ok (.iload_n 1, 1) := by decide +kernel
theorem dX12_addThreshold_7 : decode cX12_addThreshold 7 = .ok (.iconst 1, 1) := by decide +kernel
theorem dX12_addThreshold_8 : decode cX12_addThreshold 8 = .ok (.sipush 9999, 3) := by decide +kernel
theorem dX12_addThreshold_11 : decode cX12_addThreshold 11 = .ok (.invokestatic 99, 3) := by decide +kernel
theorem dX12_addThreshold_14 : decode cX12_addThreshold 14 = .ok (.ifCond .eq 18, 3) := by decide +kernel
theorem dX12_addThreshold_17 : decode cX12_addThreshold 17 = .ok (.iload_n 2, 1) := by decide +kernel
theorem dX12_addThreshold_18 : decode cX12_addThreshold 18 = .ok (.iconst 1, 1) := by decide +kernel
theorem dX12_addThreshold_19 : decode cX12_addThreshold 19 = .ok (.sipush 9999, 3) := by decide +kernel
theorem dX12_addThreshold_22 : decode cX12_addThreshold 22 = .ok (.invokestatic 99, 3) := by decide +kernel
theorem dX12_addThreshold_25 : decode cX12_addThreshold 25 = .ok (.ifCond .eq 7, 3) := by decide +kernel
theorem dX12_addThreshold_28 : decode cX12_addThreshold 28 = .ok (.iconst 1, 1) := by decide +kernel
theorem dX12_addThreshold_29 : decode cX12_addThreshold 29 = .ok (.goto 4, 3) := by decide +kernel
theorem dX12_addThreshold_32 : decode cX12_addThreshold 32 = .ok (.iconst 0, 1) := by decide +kernel
theorem dX12_addThreshold_33 : decode cX12_addThreshold 33 = .ok (.iload_n 3, 1) := by decide +kernel
theorem dX12_addThreshold_34 : decode cX12_addThreshold 34 = .ok (.iload 4, 2) := by decide +kernel
theorem dX12_addThreshold_36 : decode cX12_addThreshold 36 = .ok (.invokevirtual 124, 3) := by decide +kernel
theorem dX12_addThreshold_39 : decode cX12_addThreshold 39 = .ok (.ireturn, 1) := by decide +kernel
theorem dX12_leftOf_0 : decode cX12_leftOf 0 = .ok (.aload_n 0, 1) := by decide +kernel
theorem dX12_leftOf_1 : decode cX12_leftOf 1 = .ok (.getfield 41, 3) := by decide +kernel
theorem dX12_leftOf_4 : decode cX12_leftOf 4 = .ok (.iload_n 1, 1) := by decide +kernel
theorem dX12_leftOf_5 : decode cX12_leftOf 5 = .ok (.iaload, 1) := by decide +kernel
theorem dX12_leftOf_6 : decode cX12_leftOf 6 = .ok (.aload_n 0, 1) := by decide +kernel
theorem dX12_leftOf_7 : decode cX12_leftOf 7 = .ok (.getfield 49, 3) := by decide +kernel
theorem dX12_leftOf_10 : decode cX12_leftOf 10 = .ok (.aload_n 0, 1) := by decide +kernel
theorem dX12_leftOf_11 : decode cX12_leftOf 11 = .ok (.getfield 114, 3) := by decide +kernel
theorem dX12_leftOf_14 : decode cX12_leftOf 14 = .ok (.aaload, 1) := by decide +kernel
theorem dX12_leftOf_15 : decode cX12_leftOf 15 = .ok (.iload_n 1, 1) := by decide +kernel
theorem dX12_leftOf_16 : decode cX12_leftOf 16 = .ok (.iaload, 1) := by decide +kernel
theorem dX12_leftOf_17 : decode cX12_leftOf 17 = .ok (.isub, 1) := by decide +kernel
theorem dX12_leftOf_18 : decode cX12_leftOf 18 = .ok (.ireturn, 1) := by decide +kernel
set_option maxRecDepth 20000 in
theorem ggX12_left_X12_in : GoodIn wsX12_left wsX12_in := goodIn_r _ [6] (by decide +kernel) (by decide +kernel)
set_option maxRecDepth 20000 in
theorem gX12_left_X12_in : GoodIn wsX12_left (va_wsS RX12 99 yX12_in wsX12_in) := goodIn_app (goodIn_of _ (by decide +kernel)) ggX12_left_X12_in
set_option maxRecDepth 20000 in
theorem ggX12_left_X12_leftOf : GoodIn wsX12_left wsX12_leftOf := goodIn_ca (goodIn_r _ [10, 11, 12, 13, 14, 15, 16, 17, 18, 19, 20, 21, 22, 23, 24, 25, 26, 27, 28, 29, 30, 31, 32, 33, 34, 35, 36, 37, 38, 39, 40, 41, 42, 43, 44, 45, 46, 47, 48, 49, 50] (by decide +kernel) (by decide +kernel)) (goodIn_sub (fun _ h => List.mem_cons_of_mem _ (List.mem_append_right _ h)) (by decide +kernel))
set_option maxRecDepth 20000 in
theorem gX12_left_X12_leftOf : GoodIn wsX12_left (wsV RX12 128 RX12 yX12_leftOf wsX12_leftOf) := goodIn_app (goodIn_of _ (by decide +kernel)) ggX12_left_X12_leftOf
theorem dX12_left_0 : decode cX12_left 0 = .ok (.aload_n 0, 1) := by decide +kernel
theorem dX12_left_1 : decode cX12_left 1 = .ok (.iload_n 1, 1) := by decide +kernel
theorem dX12_left_2 : decode cX12_left 2 = .ok (.iconst 0, 1) := by decide +kernel
theorem dX12_left_3 : decode cX12_left 3 = .ok (.aload_n 0, 1) := by decide +kernel
theorem dX12_left_4 : decode cX12_left 4 = .ok (.getfield 121, 3) := by decide +kernel
theorem dX12_left_7 : decode cX12_left 7 = .ok (.iconst 1, 1) := by decide +kernel
theorem dX12_left_8 : decode cX12_left 8 = .ok (.isub, 1) := by decide +kernel
theorem dX12_left_9 : decode cX12_left 9 = .ok (.invokestatic 99, 3) := by decide +kernel
theorem dX12_left_12 : decode cX12_left 12 = .ok (.ifCond .eq 7, 3) := by decide +kernel
theorem dX12_left_15 : decode cX12_left 15 = .ok (.iconst 0, 1) := by decide +kernel
theorem dX12_left_16 : decode cX12_left 16 = .ok (.goto 4, 3) := by decide +kernel
theorem dX12_left_19 : decode cX12_left 19 = .ok (.iconst 1, 1) := by decide +kernel
theorem dX12_left_20 : decode cX12_left 20 = .ok (.putfield 89, 3) := by decide +kernel
theorem dX12_left_23 : decode cX12_left 23 = .ok (.aload_n 0, 1) := by decide +kernel
theorem dX12_left_24 : decode cX12_left 24 = .ok (.getfield 89, 3) := by decide +kernel
theorem dX12_left_27 : decode cX12_left 27 = .ok (.ifCond .le 7, 3) := by decide +kernel
theorem dX12_left_30 : decode cX12_left 30 = .ok (.iconst 0, 1) := by decide +kernel
theorem dX12_left_31 : decode cX12_left 31 = .ok (.goto 8, 3) := by decide +kernel
theorem dX12_left_34 : decode cX12_left 34 = .ok (.aload_n 0, 1) := by decide +kernel
theorem dX12_left_35 : decode cX12_left 35 = .ok (.iload_n 1, 1) := by decide +kernel
theorem dX12_left_36 : decode cX12_left 36 = .ok (.invokevirtual 128, 3) := by decide +kernel
theorem dX12_left_39 : decode cX12_left 39 = .ok (.ireturn, 1) := by decide +kernel
theorem dX12_offers_0 : decode cX12_offers 0 = .ok (.aload_n 0, 1) := by decide +kernel
theorem dX12_offers_1 : decode cX12_offers 1 = .ok (.iconst 0, 1) := by decide +kernel
theorem dX12_offers_2 : decode cX12_offers 2 = .ok (.putfield 89, 3) := by decide +kernel
theorem dX12_offers_5 : decode cX12_offers 5 = .ok (.aload_n 0, 1) := by decide +kernel
theorem dX12_offers_6 : decode cX12_offers 6 = .ok (.getfield 121, 3) := by decide +kernel
theorem dX12_offers_9 : decode cX12_offers 9 = .ok (.ireturn, 1) := by decide +kernel
theorem dX12_price_0 : decode cX12_price 0 = .ok (.aload_n 0, 1) := by decide +kernel
theorem dX12_price_1 : decode cX12_price 1 = .ok (.getfield 13, 3) := by decide +kernel
theorem dX12_price_4 : decode cX12_price 4 = .ok (.aload_n 0, 1) := by decide +kernel
theorem dX12_price_5 : decode cX12_price 5 = .ok (.getfield 52, 3) := by decide +kernel
theorem dX12_price_8 : decode cX12_price 8 = .ok (.iload_n 1, 1) := by decide +kernel
theorem dX12_price_9 : decode cX12_price 9 = .ok (.iaload, 1) := by decide +kernel
theorem dX12_price_10 : decode cX12_price 10 = .ok (.iaload, 1) := by decide +kernel
theorem dX12_price_11 : decode cX12_price 11 = .ok (.ireturn, 1) := by decide +kernel
theorem dX12_kind_0 : decode cX12_kind 0 = .ok (.aload_n 0, 1) := by decide +kernel
theorem dX12_kind_1 : decode cX12_kind 1 = .ok (.getfield 9, 3) := by decide +kernel
theorem dX12_kind_4 : decode cX12_kind 4 = .ok (.aload_n 0, 1) := by decide +kernel
theorem dX12_kind_5 : decode cX12_kind 5 = .ok (.getfield 52, 3) := by decide +kernel
theorem dX12_kind_8 : decode cX12_kind 8 = .ok (.iload_n 1, 1) := by decide +kernel
theorem dX12_kind_9 : decode cX12_kind 9 = .ok (.iaload, 1) := by decide +kernel
theorem dX12_kind_10 : decode cX12_kind 10 = .ok (.iaload, 1) := by decide +kernel
theorem dX12_kind_11 : decode cX12_kind 11 = .ok (.ireturn, 1) := by decide +kernel
theorem dX12_sizeOf_0 : decode cX12_sizeOf 0 = .ok (.aload_n 0, 1) := by decide +kernel
theorem dX12_sizeOf_1 : decode cX12_sizeOf 1 = .ok (.getfield 26, 3) := by decide +kernel
theorem dX12_sizeOf_4 : decode cX12_sizeOf 4 = .ok (.iload_n 1, 1) := by decide +kernel
theorem dX12_sizeOf_5 : decode cX12_sizeOf 5 = .ok (.caload, 1) := by decide +kernel
theorem dX12_sizeOf_6 : decode cX12_sizeOf 6 = .ok (.bipush 112, 2) := by decide +kernel
theorem dX12_sizeOf_8 : decode cX12_sizeOf 8 = .ok (.if_icmp .ne 7, 3) := by decide +kernel
theorem dX12_sizeOf_11 : decode cX12_sizeOf 11 = .ok (.iconst 1, 1) := by decide +kernel
theorem dX12_sizeOf_12 : decode cX12_sizeOf 12 = .ok (.goto 53, 3) := by decide +kernel
theorem dX12_sizeOf_15 : decode cX12_sizeOf 15 = .ok (.aload_n 0, 1) := by decide +kernel
theorem dX12_sizeOf_16 : decode cX12_sizeOf 16 = .ok (.getfield 26, 3) := by decide +kernel
theorem dX12_sizeOf_19 : decode cX12_sizeOf 19 = .ok (.iload_n 1, 1) := by decide +kernel
theorem dX12_sizeOf_20 : decode cX12_sizeOf 20 = .ok (.caload, 1) := by decide +kernel
theorem dX12_sizeOf_21 : decode cX12_sizeOf 21 = .ok (.bipush 102, 2) := by decide +kernel
theorem dX12_sizeOf_23 : decode cX12_sizeOf 23 = .ok (.if_icmp .ne 12, 3) := by decide +kernel
theorem dX12_sizeOf_26 : decode cX12_sizeOf 26 = .ok (.aload_n 0, 1) := by decide +kernel
theorem dX12_sizeOf_27 : decode cX12_sizeOf 27 = .ok (.getfield 32, 3) := by decide +kernel
theorem dX12_sizeOf_30 : decode cX12_sizeOf 30 = .ok (.iload_n 1, 1) := by decide +kernel
theorem dX12_sizeOf_31 : decode cX12_sizeOf 31 = .ok (.iaload, 1) := by decide +kernel
theorem dX12_sizeOf_32 : decode cX12_sizeOf 32 = .ok (.goto 33, 3) := by decide +kernel
theorem dX12_sizeOf_35 : decode cX12_sizeOf 35 = .ok (.aload_n 0, 1) := by decide +kernel
theorem dX12_sizeOf_36 : decode cX12_sizeOf 36 = .ok (.getfield 26, 3) := by decide +kernel
theorem dX12_sizeOf_39 : decode cX12_sizeOf 39 = .ok (.iload_n 1, 1) := by decide +kernel
theorem dX12_sizeOf_40 : decode cX12_sizeOf 40 = .ok (.caload, 1) := by decide +kernel
theorem dX12_sizeOf_41 : decode cX12_sizeOf 41 = .ok (.bipush 116, 2) := by decide +kernel
theorem dX12_sizeOf_43 : decode cX12_sizeOf 43 = .ok (.if_icmp .ne 7, 3) := by decide +kernel
theorem dX12_sizeOf_46 : decode cX12_sizeOf 46 = .ok (.iconst 0, 1) := by decide +kernel
theorem dX12_sizeOf_47 : decode cX12_sizeOf 47 = .ok (.goto 18, 3) := by decide +kernel
theorem dX12_sizeOf_50 : decode cX12_sizeOf 50 = .ok (.aload_n 0, 1) := by decide +kernel
theorem dX12_sizeOf_51 : decode cX12_sizeOf 51 = .ok (.getfield 35, 3) := by decide +kernel
theorem dX12_sizeOf_54 : decode cX12_sizeOf 54 = .ok (.iload_n 1, 1) := by decide +kernel
theorem dX12_sizeOf_55 : decode cX12_sizeOf 55 = .ok (.iaload, 1) := by decide +kernel
theorem dX12_sizeOf_56 : decode cX12_sizeOf 56 = .ok (.iconst (-1), 1) := by decide +kernel
theorem dX12_sizeOf_57 : decode cX12_sizeOf 57 = .ok (.if_icmp .ne 7, 3) := by decide +kernel
theorem dX12_sizeOf_60 : decode cX12_sizeOf 60 = .ok (.iconst 2, 1) := by decide +kernel
theorem dX12_sizeOf_61 : decode cX12_sizeOf 61 = .ok (.goto 4, 3) := by decide +kernel
theorem dX12_sizeOf_64 : decode cX12_sizeOf 64 = .ok (.iconst 3, 1) := by decide +kernel
theorem dX12_sizeOf_65 : decode cX12_sizeOf 65 = .ok (.ireturn, 1) := by decide +kernel
set_option maxRecDepth 20000 in
theorem ggX12_wants_X12_sizeOf : GoodIn wsX12_wants wsX12_sizeOf := goodIn_ca (goodIn_r _ [9, 1, 3, 4, 10, 11, 12, 13, 14, 15, 16, 17, 18, 19, 20, 21, 22, 23, 24, 25, 26, 27, 28, 29, 30, 31, 32, 33, 34, 35, 36, 37, 38, 39, 40, 41, 42, 43, 44, 45, 46] (by decide +kernel) (by decide +kernel)) (goodIn_sub (fun _ h => List.mem_cons_of_mem _ (List.mem_append_right _ h)) (by decide +kernel))
set_option maxRecDepth 20000 in
theorem gX12_wants_X12_sizeOf : GoodIn wsX12_wants (wsV RX12 132 RX12 yX12_sizeOf wsX12_sizeOf) := goodIn_app (goodIn_of _ (by decide +kernel)) ggX12_wants_X12_sizeOf
theorem dX12_wants_0 : decode cX12_wants 0 = .ok (.aload_n 0, 1) := by decide +kernel
theorem dX12_wants_1 : decode cX12_wants 1 = .ok (.getfield 26, 3) := by decide +kernel
theorem dX12_wants_4 : decode cX12_wants 4 = .ok (.iload_n 1, 1) := by decide +kernel
theorem dX12_wants_5 : decode cX12_wants 5 = .ok (.caload, 1) := by decide +kernel
theorem dX12_wants_6 : decode cX12_wants 6 = .ok (.bipush 98, 2) := by decide +kernel
theorem dX12_wants_8 : decode cX12_wants 8 = .ok (.if_icmp .ne 51, 3) := by decide +kernel
theorem dX12_wants_11 : decode cX12_wants 11 = .ok (.aload_n 0, 1) := by decide +kernel
theorem dX12_wants_12 : decode cX12_wants 12 = .ok (.getfield 29, 3) := by decide +kernel
theorem dX12_wants_15 : decode cX12_wants 15 = .ok (.iload_n 1, 1) := by decide +kernel
theorem dX12_wants_16 : decode cX12_wants 16 = .ok (.iaload, 1) := by decide +kernel
theorem dX12_wants_17 : decode cX12_wants 17 = .ok (.iload_n 2, 1) := by decide +kernel
theorem dX12_wants_18 : decode cX12_wants 18 = .ok (.if_icmp .ne 7, 3) := by decide +kernel
theorem dX12_wants_21 : decode cX12_wants 21 = .ok (.iconst 1, 1) := by decide +kernel
theorem dX12_wants_22 : decode cX12_wants 22 = .ok (.goto 4, 3) := by decide +kernel
theorem dX12_wants_25 : decode cX12_wants 25 = .ok (.iconst 0, 1) := by decide +kernel
theorem dX12_wants_26 : decode cX12_wants 26 = .ok (.aload_n 0, 1) := by decide +kernel
theorem dX12_wants_27 : decode cX12_wants 27 = .ok (.getfield 32, 3) := by decide +kernel
theorem dX12_wants_30 : decode cX12_wants 30 = .ok (.iload_n 1, 1) := by decide +kernel
theorem dX12_wants_31 : decode cX12_wants 31 = .ok (.iaload, 1) := by decide +kernel
theorem dX12_wants_32 : decode cX12_wants 32 = .ok (.iload_n 2, 1) := by decide +kernel
theorem dX12_wants_33 : decode cX12_wants 33 = .ok (.if_icmp .ne 7, 3) := by decide +kernel
theorem dX12_wants_36 : decode cX12_wants 36 = .ok (.iconst 1, 1) := by decide +kernel
theorem dX12_wants_37 : decode cX12_wants 37 = .ok (.goto 4, 3) := by decide +kernel
theorem dX12_wants_40 : decode cX12_wants 40 = .ok (.iconst 0, 1) := by decide +kernel
theorem dX12_wants_41 : decode cX12_wants 41 = .ok (.iadd, 1) := by decide +kernel
theorem dX12_wants_42 : decode cX12_wants 42 = .ok (.aload_n 0, 1) := by decide +kernel
theorem dX12_wants_43 : decode cX12_wants 43 = .ok (.getfield 35, 3) := by decide +kernel
theorem dX12_wants_46 : decode cX12_wants 46 = .ok (.iload_n 1, 1) := by decide +kernel
theorem dX12_wants_47 : decode cX12_wants 47 = .ok (.iaload, 1) := by decide +kernel
theorem dX12_wants_48 : decode cX12_wants 48 = .ok (.iload_n 2, 1) := by decide +kernel
theorem dX12_wants_49 : decode cX12_wants 49 = .ok (.if_icmp .ne 7, 3) := by decide +kernel
theorem dX12_wants_52 : decode cX12_wants 52 = .ok (.iconst 1, 1) := by decide +kernel
theorem dX12_wants_53 : decode cX12_wants 53 = .ok (.goto 4, 3) := by decide +kernel
theorem dX12_wants_56 : decode cX12_wants 56 = .ok (.iconst 0, 1) := by decide +kernel
theorem dX12_wants_57 : decode cX12_wants 57 = .ok (.iadd, 1) := by decide +kernel
theorem dX12_wants_58 : decode cX12_wants 58 = .ok (.ireturn, 1) := by decide +kernel
theorem dX12_wants_59 : decode cX12_wants 59 = .ok (.aload_n 0, 1) := by decide +kernel
theorem dX12_wants_60 : decode cX12_wants 60 = .ok (.getfield 26, 3) := by decide +kernel
theorem dX12_wants_63 : decode cX12_wants 63 = .ok (.iload_n 1, 1) := by decide +kernel
theorem dX12_wants_64 : decode cX12_wants 64 = .ok (.caload, 1) := by decide +kernel
theorem dX12_wants_65 : decode cX12_wants 65 = .ok (.bipush 116, 2) := by decide +kernel
theorem dX12_wants_67 : decode cX12_wants 67 = .ok (.if_icmp .eq 13, 3) := by decide +kernel
theorem dX12_wants_70 : decode cX12_wants 70 = .ok (.aload_n 0, 1) := by decide +kernel
theorem dX12_wants_71 : decode cX12_wants 71 = .ok (.getfield 29, 3) := by decide +kernel
theorem dX12_wants_74 : decode cX12_wants 74 = .ok (.iload_n 1, 1) := by decide +kernel
theorem dX12_wants_75 : decode cX12_wants 75 = .ok (.iaload, 1) := by decide +kernel
theorem dX12_wants_76 : decode cX12_wants 76 = .ok (.iload_n 2, 1) := by decide +kernel
theorem dX12_wants_77 : decode cX12_wants 77 = .ok (.if_icmp .eq 7, 3) := by decide +kernel
theorem dX12_wants_80 : decode cX12_wants 80 = .ok (.iconst 0, 1) := by decide +kernel
theorem dX12_wants_81 : decode cX12_wants 81 = .ok (.goto 8, 3) := by decide +kernel
theorem dX12_wants_84 : decode cX12_wants 84 = .ok (.aload_n 0, 1) := by decide +kernel
theorem dX12_wants_85 : decode cX12_wants 85 = .ok (.iload_n 1, 1) := by decide +kernel
theorem dX12_wants_86 : decode cX12_wants 86 = .ok (.invokevirtual 132, 3) := by decide +kernel
theorem dX12_wants_89 : decode cX12_wants 89 = .ok (.ireturn, 1) := by decide +kernel
set_option maxRecDepth 20000 in
theorem ggX12_fits_J6_bitCount_0f7a4 : GoodIn wsX12_fits wsJ6_bitCount_0f7a4 := goodIn_r _ [5, 6, 7, 8] (by decide +kernel) (by decide +kernel)
set_option maxRecDepth 20000 in
theorem gX12_fits_J6_bitCount_0f7a4 : GoodIn wsX12_fits (va_wsS RX12 135 yJ6_bitCount_0f7a4 wsJ6_bitCount_0f7a4) := goodIn_app (goodIn_of _ (by decide +kernel)) ggX12_fits_J6_bitCount_0f7a4
set_option maxRecDepth 20000 in
theorem ggX12_fits_X12_sizeOf : GoodIn wsX12_fits wsX12_sizeOf := goodIn_ca (goodIn_r _ [13, 14, 15, 16, 28, 29, 30, 31, 32, 33, 34, 35, 36, 37, 38, 39, 40, 41, 42, 43, 44, 45, 46, 47, 48, 49, 50, 51, 52, 53, 54, 55, 56, 57, 58, 59, 60, 61, 62, 63, 64] (by decide +kernel) (by decide +kernel)) (goodIn_sub (fun _ h => List.mem_cons_of_mem _ (List.mem_append_right _ h)) (by decide +kernel))
set_option maxRecDepth 20000 in
theorem gX12_fits_X12_sizeOf : GoodIn wsX12_fits (wsV RX12 132 RX12 yX12_sizeOf wsX12_sizeOf) := goodIn_app (goodIn_of _ (by decide +kernel)) ggX12_fits_X12_sizeOf
set_option maxRecDepth 20000 in
theorem ggX12_fits_X12_kind : GoodIn wsX12_fits wsX12_kind := goodIn_ca (goodIn_r _ [20, 21, 22, 28, 29, 30, 31, 32, 33, 34, 35, 36, 37, 38, 39, 40, 41, 42, 43, 44, 45, 46, 47, 48, 49, 50, 51, 52, 53, 54, 55, 56, 57, 58, 59, 60, 61, 62, 63, 64] (by decide +kernel) (by decide +kernel)) (goodIn_sub (fun _ h => List.mem_cons_of_mem _ (List.mem_append_right _ h)) (by decide +kernel))
set_option maxRecDepth 20000 in
theorem gX12_fits_X12_kind : GoodIn wsX12_fits (wsV RX12 140 RX12 yX12_kind wsX12_kind) := goodIn_app (goodIn_of _ (by decide +kernel)) ggX12_fits_X12_kind
set_option maxRecDepth 20000 in
theorem ggX12_fits_X12_wants : GoodIn wsX12_fits wsX12_wants := goodIn_ca (goodIn_r _ [26, 14, 27, 15, 16, 9, 10, 11, 12, 13, 28, 29, 30, 31, 32, 33, 34, 35, 36, 37, 38, 39, 40, 41, 42, 43, 44, 45, 46, 47, 48, 49, 50, 51, 52, 53, 54, 55, 56, 57, 58, 59, 60, 61, 62, 63, 64] (by decide +kernel) (by decide +kernel)) (goodIn_sub (fun _ h => List.mem_cons_of_mem _ (List.mem_append_right _ h)) (by decide +kernel))
set_option maxRecDepth 20000 in
theorem gX12_fits_X12_wants : GoodIn wsX12_fits (wsV RX12 143 RX12 yX12_wants wsX12_wants) := goodIn_app (goodIn_of _ (by decide +kernel)) ggX12_fits_X12_wants
theorem dX12_fits_0 : decode cX12_fits 0 = .ok (.iload_n 2, 1) := by decide +kernel
theorem dX12_fits_1 : decode cX12_fits 1 = .ok (.invokestatic 135, 3) := by decide +kernel
theorem dX12_fits_4 : decode cX12_fits 4 = .ok (.aload_n 0, 1) := by decide +kernel
theorem dX12_fits_5 : decode cX12_fits 5 = .ok (.iload_n 1, 1) := by decide +kernel
theorem dX12_fits_6 : decode cX12_fits 6 = .ok (.invokevirtual 132, 3) := by decide +kernel
theorem dX12_fits_9 : decode cX12_fits 9 = .ok (.if_icmp .eq 5, 3) := by decide +kernel
theorem dX12_fits_12 : decode cX12_fits 12 = .ok (.iconst 0, 1) := by decide +kernel
theorem dX12_fits_13 : decode cX12_fits 13 = .ok (.ireturn, 1) := by decide +kernel
theorem dX12_fits_14 : decode cX12_fits 14 = .ok (.iconst 0, 1) := by decide +kernel
theorem dX12_fits_15 : decode cX12_fits 15 = .ok (.istore_n 3, 1) := by decide +kernel
theorem dX12_fits_16 : decode cX12_fits 16 = .ok (.iload_n 3, 1) := by decide +kernel
theorem dX12_fits_17 : decode cX12_fits 17 = .ok (.bipush 10, 2) := by decide +kernel
theorem dX12_fits_19 : decode cX12_fits 19 = .ok (.if_icmp .ge 73, 3) := by decide +kernel
theorem dX12_fits_22 : decode cX12_fits 22 = .ok (.iconst 0, 1) := by decide +kernel
theorem dX12_fits_23 : decode cX12_fits 23 = .ok (.istore 4, 2) := by decide +kernel
theorem dX12_fits_25 : decode cX12_fits 25 = .ok (.iconst 0, 1) := by decide +kernel
theorem dX12_fits_26 : decode cX12_fits 26 = .ok (.istore 5, 2) := by decide +kernel
theorem dX12_fits_28 : decode cX12_fits 28 = .ok (.iload 5, 2) := by decide +kernel
theorem dX12_fits_30 : decode cX12_fits 30 = .ok (.aload_n 0, 1) := by decide +kernel
theorem dX12_fits_31 : decode cX12_fits 31 = .ok (.getfield 93, 3) := by decide +kernel
theorem dX12_fits_34 : decode cX12_fits 34 = .ok (.if_icmp .ge 39, 3) := by decide +kernel
theorem dX12_fits_37 : decode cX12_fits 37 = .ok (.iload 4, 2) := by decide +kernel
theorem dX12_fits_39 : decode cX12_fits 39 = .ok (.iload_n 2, 1) := by decide +kernel
theorem dX12_fits_40 : decode cX12_fits 40 = .ok (.iload 5, 2) := by decide +kernel
theorem dX12_fits_42 : decode cX12_fits 42 = .ok (.ishr, 1) := by decide +kernel
theorem dX12_fits_43 : decode cX12_fits 43 = .ok (.iconst 1, 1) := by decide +kernel
theorem dX12_fits_44 : decode cX12_fits 44 = .ok (.iand, 1) := by decide +kernel
theorem dX12_fits_45 : decode cX12_fits 45 = .ok (.iconst 1, 1) := by decide +kernel
theorem dX12_fits_46 : decode cX12_fits 46 = .ok (.if_icmp .ne 17, 3) := by decide +kernel
theorem dX12_fits_49 : decode cX12_fits 49 = .ok (.aload_n 0, 1) := by decide +kernel
theorem dX12_fits_50 : decode cX12_fits 50 = .ok (.iload 5, 2) := by decide +kernel
theorem dX12_fits_52 : decode cX12_fits 52 = .ok (.invokevirtual 140, 3) := by decide +kernel
theorem dX12_fits_55 : decode cX12_fits 55 = .ok (.iload_n 3, 1) := by decide +kernel
theorem dX12_fits_56 : decode cX12_fits 56 = .ok (.if_icmp .ne 7, 3) := by decide +kernel
theorem dX12_fits_59 : decode cX12_fits 59 = .ok (.iconst 1, 1) := by decide +kernel
theorem dX12_fits_60 : decode cX12_fits 60 = .ok (.goto 4, 3) := by decide +kernel
theorem dX12_fits_63 : decode cX12_fits 63 = .ok (.iconst 0, 1) := by decide +kernel
theorem dX12_fits_64 : decode cX12_fits 64 = .ok (.iadd, 1) := by decide +kernel
theorem dX12_fits_65 : decode cX12_fits 65 = .ok (.istore 4, 2) := by decide +kernel
theorem dX12_fits_67 : decode cX12_fits 67 = .ok (.iinc 5 1, 3) := by decide +kernel
theorem dX12_fits_70 : decode cX12_fits 70 = .ok (.goto (-42), 3) := by decide +kernel
theorem dX12_fits_73 : decode cX12_fits 73 = .ok (.iload 4, 2) := by decide +kernel
theorem dX12_fits_75 : decode cX12_fits 75 = .ok (.aload_n 0, 1) := by decide +kernel
theorem dX12_fits_76 : decode cX12_fits 76 = .ok (.iload_n 1, 1) := by decide +kernel
theorem dX12_fits_77 : decode cX12_fits 77 = .ok (.iload_n 3, 1) := by decide +kernel
theorem dX12_fits_78 : decode cX12_fits 78 = .ok (.invokevirtual 143, 3) := by decide +kernel
theorem dX12_fits_81 : decode cX12_fits 81 = .ok (.if_icmp .eq 5, 3) := by decide +kernel
theorem dX12_fits_84 : decode cX12_fits 84 = .ok (.iconst 0, 1) := by decide +kernel
theorem dX12_fits_85 : decode cX12_fits 85 = .ok (.ireturn, 1) := by decide +kernel
theorem dX12_fits_86 : decode cX12_fits 86 = .ok (.iinc 3 1, 3) := by decide +kernel
theorem dX12_fits_89 : decode cX12_fits 89 = .ok (.goto (-73), 3) := by decide +kernel
theorem dX12_fits_92 : decode cX12_fits 92 = .ok (.iconst 1, 1) := by decide +kernel
theorem dX12_fits_93 : decode cX12_fits 93 = .ok (.ireturn, 1) := by decide +kernel
set_option maxRecDepth 20000 in
theorem ggX12_discount_X12_price : GoodIn wsX12_discount wsX12_price := goodIn_ca (goodIn_r _ [13, 14, 15, 16, 17, 18, 19, 20, 21, 22, 23, 24, 25, 26, 27, 28, 29, 30, 31, 32, 33, 34, 35, 36, 37, 38, 39, 40, 41, 42, 43, 44, 45, 46, 47, 48, 49, 50, 51, 52] (by decide +kernel) (by decide +kernel)) (goodIn_sub (fun _ h => List.mem_cons_of_mem _ (List.mem_append_right _ h)) (by decide +kernel))
set_option maxRecDepth 20000 in
theorem gX12_discount_X12_price : GoodIn wsX12_discount (wsV RX12 147 RX12 yX12_price wsX12_price) := goodIn_app (goodIn_of _ (by decide +kernel)) ggX12_discount_X12_price
theorem dX12_discount_0 : decode cX12_discount 0 = .ok (.iconst 0, 1) := by decide +kernel
theorem dX12_discount_1 : decode cX12_discount 1 = .ok (.istore_n 3, 1) := by decide +kernel
theorem dX12_discount_2 : decode cX12_discount 2 = .ok (.sipush 9999, 3) := by decide +kernel
theorem dX12_discount_5 : decode cX12_discount 5 = .ok (.istore 4, 2) := by decide +kernel
theorem dX12_discount_7 : decode cX12_discount 7 = .ok (.iconst 0, 1) := by decide +kernel
theorem dX12_discount_8 : decode cX12_discount 8 = .ok (.istore 5, 2) := by decide +kernel
theorem dX12_discount_10 : decode cX12_discount 10 = .ok (.iload 5, 2) := by decide +kernel
theorem dX12_discount_12 : decode cX12_discount 12 = .ok (.aload_n 0, 1) := by decide +kernel
theorem dX12_discount_13 : decode cX12_discount 13 = .ok (.getfield 93, 3) := by decide +kernel
theorem dX12_discount_16 : decode cX12_discount 16 = .ok (.if_icmp .ge 41, 3) := by decide +kernel
theorem dX12_discount_19 : decode cX12_discount 19 = .ok (.iload_n 2, 1) := by decide +kernel
theorem dX12_discount_20 : decode cX12_discount 20 = .ok (.iload 5, 2) := by decide +kernel
theorem dX12_discount_22 : decode cX12_discount 22 = .ok (.ishr, 1) := by decide +kernel
theorem dX12_discount_23 : decode cX12_discount 23 = .ok (.iconst 1, 1) := by decide +kernel
theorem dX12_discount_24 : decode cX12_discount 24 = .ok (.iand, 1) := by decide +kernel
theorem dX12_discount_25 : decode cX12_discount 25 = .ok (.iconst 1, 1) := by decide +kernel
theorem dX12_discount_26 : decode cX12_discount 26 = .ok (.if_icmp .ne 25, 3) := by decide +kernel
theorem dX12_discount_29 : decode cX12_discount 29 = .ok (.iload_n 3, 1) := by decide +kernel
theorem dX12_discount_30 : decode cX12_discount 30 = .ok (.aload_n 0, 1) := by decide +kernel
theorem dX12_discount_31 : decode cX12_discount 31 = .ok (.iload 5, 2) := by decide +kernel
theorem dX12_discount_33 : decode cX12_discount 33 = .ok (.invokevirtual 147, 3) := by decide +kernel
theorem dX12_discount_36 : decode cX12_discount 36 = .ok (.iadd, 1) := by decide +kernel
theorem dX12_discount_37 : decode cX12_discount 37 = .ok (.istore_n 3, 1) := by decide +kernel
theorem dX12_discount_38 : decode cX12_discount 38 = .ok (.iload 4, 2) := by decide +kernel
theorem dX12_discount_40 : decode cX12_discount 40 = .ok (.aload_n 0, 1) := by decide +kernel
theorem dX12_discount_41 : decode cX12_discount 41 = .ok (.iload 5, 2) := by decide +kernel
theorem dX12_discount_43 : decode cX12_discount 43 = .ok (.invokevirtual 147, 3) := by decide +kernel
theorem dX12_discount_46 : decode cX12_discount 46 = .ok (.invokestatic 150, 3) := by decide +kernel
theorem dX12_discount_49 : decode cX12_discount 49 = .ok (.istore 4, 2) := by decide +kernel
theorem dX12_discount_51 : decode cX12_discount 51 = .ok (.iinc 5 1, 3) := by decide +kernel
theorem dX12_discount_54 : decode cX12_discount 54 = .ok (.goto (-44), 3) := by decide +kernel
theorem dX12_discount_57 : decode cX12_discount 57 = .ok (.aload_n 0, 1) := by decide +kernel
theorem dX12_discount_58 : decode cX12_discount 58 = .ok (.getfield 26, 3) := by decide +kernel
theorem dX12_discount_61 : decode cX12_discount 61 = .ok (.iload_n 1, 1) := by decide +kernel
theorem dX12_discount_62 : decode cX12_discount 62 = .ok (.caload, 1) := by decide +kernel
theorem dX12_discount_63 : decode cX12_discount 63 = .ok (.bipush 112, 2) := by decide +kernel
theorem dX12_discount_65 : decode cX12_discount 65 = .ok (.if_icmp .ne 17, 3) := by decide +kernel
theorem dX12_discount_68 : decode cX12_discount 68 = .ok (.iload_n 3, 1) := by decide +kernel
theorem dX12_discount_69 : decode cX12_discount 69 = .ok (.aload_n 0, 1) := by decide +kernel
theorem dX12_discount_70 : decode cX12_discount 70 = .ok (.getfield 32, 3) := by decide +kernel
theorem dX12_discount_73 : decode cX12_discount 73 = .ok (.iload_n 1, 1) := by decide +kernel
theorem dX12_discount_74 : decode cX12_discount 74 = .ok (.iaload, 1) := by decide +kernel
theorem dX12_discount_75 : decode cX12_discount 75 = .ok (.imul, 1) := by decide +kernel
theorem dX12_discount_76 : decode cX12_discount 76 = .ok (.bipush 100, 2) := by decide +kernel
theorem dX12_discount_78 : decode cX12_discount 78 = .ok (.idiv, 1) := by decide +kernel
theorem dX12_discount_79 : decode cX12_discount 79 = .ok (.goto 27, 3) := by decide +kernel
theorem dX12_discount_82 : decode cX12_discount 82 = .ok (.aload_n 0, 1) := by decide +kernel
theorem dX12_discount_83 : decode cX12_discount 83 = .ok (.getfield 26, 3) := by decide +kernel
theorem dX12_discount_86 : decode cX12_discount 86 = .ok (.iload_n 1, 1) := by decide +kernel
theorem dX12_discount_87 : decode cX12_discount 87 = .ok (.caload, 1) := by decide +kernel
theorem dX12_discount_88 : decode cX12_discount 88 = .ok (.bipush 102, 2) := by decide +kernel
theorem dX12_discount_90 : decode cX12_discount 90 = .ok (.if_icmp .ne 8, 3) := by decide +kernel
theorem dX12_discount_93 : decode cX12_discount 93 = .ok (.iload 4, 2) := by decide +kernel
theorem dX12_discount_95 : decode cX12_discount 95 = .ok (.goto 11, 3) := by decide +kernel
theorem dX12_discount_98 : decode cX12_discount 98 = .ok (.iload_n 3, 1) := by decide +kernel
theorem dX12_discount_99 : decode cX12_discount 99 = .ok (.aload_n 0, 1) := by decide +kernel
theorem dX12_discount_100 : decode cX12_discount 100 = .ok (.getfield 38, 3) := by decide +kernel
theorem dX12_discount_103 : decode cX12_discount 103 = .ok (.iload_n 1, 1) := by decide +kernel
theorem dX12_discount_104 : decode cX12_discount 104 = .ok (.iaload, 1) := by decide +kernel
theorem dX12_discount_105 : decode cX12_discount 105 = .ok (.isub, 1) := by decide +kernel
theorem dX12_discount_106 : decode cX12_discount 106 = .ok (.ireturn, 1) := by decide +kernel
set_option maxRecDepth 20000 in
theorem ggX12_isGood_X12_fits : GoodIn wsX12_isGood wsX12_fits := goodIn_ca (goodIn_r _ [6, 7, 8, 9, 10, 11, 12, 13, 14, 15, 16, 17, 5, 18, 1, 19, 20, 21, 22, 23, 24, 25, 26, 27, 28, 29, 30, 31, 46, 47, 48, 49, 50, 51, 52, 53, 54, 55, 56, 57, 58, 59, 60, 61, 62, 63, 64, 65, 66, 67, 68, 69, 70, 71, 72, 73, 74, 75, 76, 77, 78, 79, 80, 81, 82] (by decide +kernel) (by decide +kernel)) (goodIn_sub (fun _ h => List.mem_cons_of_mem _ (List.mem_append_right _ h)) (by decide +kernel))
set_option maxRecDepth 20000 in
theorem gX12_isGood_X12_fits : GoodIn wsX12_isGood (wsV RX12 155 RX12 yX12_fits wsX12_fits) := goodIn_app (goodIn_of _ (by decide +kernel)) ggX12_isGood_X12_fits
set_option maxRecDepth 20000 in
theorem ggX12_isGood_X12_discount : GoodIn wsX12_isGood wsX12_discount := goodIn_ca (goodIn_r _ [35, 7, 36, 37, 38, 39, 1, 19, 40, 41, 42, 43, 5, 44, 45, 26, 46, 47, 48, 49, 50, 51, 52, 53, 54, 55, 56, 57, 58, 59, 60, 61, 62, 63, 64, 65, 66, 67, 68, 69, 70, 71, 72, 73, 74, 75, 76, 77, 78, 79, 80, 81, 82] (by decide +kernel) (by decide +kernel)) (goodIn_sub (fun _ h => List.mem_cons_of_mem _ (List.mem_append_right _ h)) (by decide +kernel))
set_option maxRecDepth 20000 in
theorem gX12_isGood_X12_discount : GoodIn wsX12_isGood (wsV RX12 159 RX12 yX12_discount wsX12_discount) := goodIn_app (goodIn_of _ (by decide +kernel)) ggX12_isGood_X12_discount
theorem dX12_isGood_0 : decode cX12_isGood 0 = .ok (.aload_n 0, 1) := by decide +kernel
theorem dX12_isGood_1 : decode cX12_isGood 1 = .ok (.iload_n 1, 1) := by decide +kernel
theorem dX12_isGood_2 : decode cX12_isGood 2 = .ok (.iload_n 2, 1) := by decide +kernel
theorem dX12_isGood_3 : decode cX12_isGood 3 = .ok (.invokevirtual 155, 3) := by decide +kernel
theorem dX12_isGood_6 : decode cX12_isGood 6 = .ok (.ifCond .eq 27, 3) := by decide +kernel
theorem dX12_isGood_9 : decode cX12_isGood 9 = .ok (.aload_n 0, 1) := by decide +kernel
theorem dX12_isGood_10 : decode cX12_isGood 10 = .ok (.getfield 26, 3) := by decide +kernel
theorem dX12_isGood_13 : decode cX12_isGood 13 = .ok (.iload_n 1, 1) := by decide +kernel
