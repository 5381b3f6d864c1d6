theorem dX12_isGood_14 : decode cX12_isGood 14 = .ok (.caload, 1) := by decide +kernel
theorem dX12_isGood_15 : decode cX12_isGood 15 = .ok (.bipush 98, 2) := by decide +kernel
theorem dX12_isGood_17 : decode cX12_isGood 17 = .ok (.if_icmp .ne 12, 3) := by decide +kernel
theorem dX12_isGood_20 : decode cX12_isGood 20 = .ok (.aload_n 0, 1) := by decide +kernel
theorem dX12_isGood_21 : decode cX12_isGood 21 = .ok (.iload_n 1, 1) := by decide +kernel
theorem dX12_isGood_22 : decode cX12_isGood 22 = .ok (.iload_n 2, 1) := by decide +kernel
theorem dX12_isGood_23 : decode cX12_isGood 23 = .ok (.invokevirtual 159, 3) := by decide +kernel
theorem dX12_isGood_26 : decode cX12_isGood 26 = .ok (.ifCond .le 7, 3) := by decide +kernel
theorem dX12_isGood_29 : decode cX12_isGood 29 = .ok (.iconst 1, 1) := by decide +kernel
theorem dX12_isGood_30 : decode cX12_isGood 30 = .ok (.goto 4, 3) := by decide +kernel
theorem dX12_isGood_33 : decode cX12_isGood 33 = .ok (.iconst 0, 1) := by decide +kernel
theorem dX12_isGood_34 : decode cX12_isGood 34 = .ok (.ireturn, 1) := by decide +kernel
set_option maxRecDepth 20000 in
theorem ggX12_thresholds_X12_canThreshold : GoodIn wsX12_thresholds wsX12_canThreshold := goodIn_ca (goodIn_r _ [9, 10, 11, 2, 12, 13, 14, 15, 8, 16, 17, 18, 19, 20, 21, 22, 23, 24, 25, 26, 27, 28, 29, 30, 31, 32, 33, 34, 35, 36, 37, 38, 39, 40, 41, 42, 43, 44, 45, 46, 47, 48, 49, 50, 51, 52, 53, 54, 55, 56] (by decide +kernel) (by decide +kernel)) (goodIn_sub (fun _ h => List.mem_cons_of_mem _ (List.mem_append_right _ h)) (by decide +kernel))
set_option maxRecDepth 20000 in
theorem gX12_thresholds_X12_canThreshold : GoodIn wsX12_thresholds (wsV RX12 162 RX12 yX12_canThreshold wsX12_canThreshold) := goodIn_app (goodIn_of _ (by decide +kernel)) ggX12_thresholds_X12_canThreshold
theorem dX12_thresholds_0 : decode cX12_thresholds 0 = .ok (.iconst 0, 1) := by decide +kernel
theorem dX12_thresholds_1 : decode cX12_thresholds 1 = .ok (.istore 4, 2) := by decide +kernel
theorem dX12_thresholds_3 : decode cX12_thresholds 3 = .ok (.iconst 0, 1) := by decide +kernel
theorem dX12_thresholds_4 : decode cX12_thresholds 4 = .ok (.istore 5, 2) := by decide +kernel
theorem dX12_thresholds_6 : decode cX12_thresholds 6 = .ok (.iload 5, 2) := by decide +kernel
theorem dX12_thresholds_8 : decode cX12_thresholds 8 = .ok (.aload_n 0, 1) := by decide +kernel
theorem dX12_thresholds_9 : decode cX12_thresholds 9 = .ok (.getfield 121, 3) := by decide +kernel
theorem dX12_thresholds_12 : decode cX12_thresholds 12 = .ok (.if_icmp .ge 182, 3) := by decide +kernel
theorem dX12_thresholds_15 : decode cX12_thresholds 15 = .ok (.aload_n 0, 1) := by decide +kernel
theorem dX12_thresholds_16 : decode cX12_thresholds 16 = .ok (.iload 5, 2) := by decide +kernel
theorem dX12_thresholds_18 : decode cX12_thresholds 18 = .ok (.iload_n 1, 1) := by decide +kernel
theorem dX12_thresholds_19 : decode cX12_thresholds 19 = .ok (.iload_n 2, 1) := by decide +kernel
theorem dX12_thresholds_20 : decode cX12_thresholds 20 = .ok (.invokevirtual 162, 3) := by decide +kernel
theorem dX12_thresholds_23 : decode cX12_thresholds 23 = .ok (.istore 6, 2) := by decide +kernel
theorem dX12_thresholds_25 : decode cX12_thresholds 25 = .ok (.iconst 0, 1) := by decide +kernel
theorem dX12_thresholds_26 : decode cX12_thresholds 26 = .ok (.istore 7, 2) := by decide +kernel
theorem dX12_thresholds_28 : decode cX12_thresholds 28 = .ok (.iload 7, 2) := by decide +kernel
theorem dX12_thresholds_30 : decode cX12_thresholds 30 = .ok (.aload_n 0, 1) := by decide +kernel
theorem dX12_thresholds_31 : decode cX12_thresholds 31 = .ok (.getfield 121, 3) := by decide +kernel
theorem dX12_thresholds_34 : decode cX12_thresholds 34 = .ok (.if_icmp .ge 120, 3) := by decide +kernel
theorem dX12_thresholds_37 : decode cX12_thresholds 37 = .ok (.iload 6, 2) := by decide +kernel
theorem dX12_thresholds_39 : decode cX12_thresholds 39 = .ok (.ifCond .eq 115, 3) := by decide +kernel
theorem dX12_thresholds_42 : decode cX12_thresholds 42 = .ok (.iload 7, 2) := by decide +kernel
theorem dX12_thresholds_44 : decode cX12_thresholds 44 = .ok (.iload 5, 2) := by decide +kernel
theorem dX12_thresholds_46 : decode cX12_thresholds 46 = .ok (.if_icmp .eq 46, 3) := by decide +kernel
theorem dX12_thresholds_49 : decode cX12_thresholds 49 = .ok (.aload_n 0, 1) := by decide +kernel
theorem dX12_thresholds_50 : decode cX12_thresholds 50 = .ok (.getfield 44, 3) := by decide +kernel
theorem dX12_thresholds_53 : decode cX12_thresholds 53 = .ok (.iload 5, 2) := by decide +kernel
theorem dX12_thresholds_55 : decode cX12_thresholds 55 = .ok (.iaload, 1) := by decide +kernel
theorem dX12_thresholds_56 : decode cX12_thresholds 56 = .ok (.iconst (-1), 1) := by decide +kernel
theorem dX12_thresholds_57 : decode cX12_thresholds 57 = .ok (.if_icmp .eq 35, 3) := by decide +kernel
theorem dX12_thresholds_60 : decode cX12_thresholds 60 = .ok (.aload_n 0, 1) := by decide +kernel
theorem dX12_thresholds_61 : decode cX12_thresholds 61 = .ok (.getfield 44, 3) := by decide +kernel
theorem dX12_thresholds_64 : decode cX12_thresholds 64 = .ok (.iload 7, 2) := by decide +kernel
theorem dX12_thresholds_66 : decode cX12_thresholds 66 = .ok (.iaload, 1) := by decide +kernel
theorem dX12_thresholds_67 : decode cX12_thresholds 67 = .ok (.aload_n 0, 1) := by decide +kernel
theorem dX12_thresholds_68 : decode cX12_thresholds 68 = .ok (.getfield 44, 3) := by decide +kernel
theorem dX12_thresholds_71 : decode cX12_thresholds 71 = .ok (.iload 5, 2) := by decide +kernel
theorem dX12_thresholds_73 : decode cX12_thresholds 73 = .ok (.iaload, 1) := by decide +kernel
theorem dX12_thresholds_74 : decode cX12_thresholds 74 = .ok (.if_icmp .ne 18, 3) := by decide +kernel
theorem dX12_thresholds_77 : decode cX12_thresholds 77 = .ok (.aload_n 0, 1) := by decide +kernel
theorem dX12_thresholds_78 : decode cX12_thresholds 78 = .ok (.iload 7, 2) := by decide +kernel
theorem dX12_thresholds_80 : decode cX12_thresholds 80 = .ok (.iload_n 1, 1) := by decide +kernel
theorem dX12_thresholds_81 : decode cX12_thresholds 81 = .ok (.iload_n 2, 1) := by decide +kernel
theorem dX12_thresholds_82 : decode cX12_thresholds 82 = .ok (.invokevirtual 162, 3) := by decide +kernel
theorem dX12_thresholds_85 : decode cX12_thresholds 85 = .ok (.ifCond .eq 7, 3) := by decide +kernel
theorem dX12_thresholds_88 : decode cX12_thresholds 88 = .ok (.iconst 1, 1) := by decide +kernel
theorem dX12_thresholds_89 : decode cX12_thresholds 89 = .ok (.goto 4, 3) := by decide +kernel
theorem dX12_thresholds_92 : decode cX12_thresholds 92 = .ok (.iconst 0, 1) := by decide +kernel
theorem dX12_thresholds_93 : decode cX12_thresholds 93 = .ok (.istore 8, 2) := by decide +kernel
theorem dX12_thresholds_95 : decode cX12_thresholds 95 = .ok (.iload 8, 2) := by decide +kernel
theorem dX12_thresholds_97 : decode cX12_thresholds 97 = .ok (.ifCond .eq 44, 3) := by decide +kernel
theorem dX12_thresholds_100 : decode cX12_thresholds 100 = .ok (.aload_n 0, 1) := by decide +kernel
theorem dX12_thresholds_101 : decode cX12_thresholds 101 = .ok (.getfield 32, 3) := by decide +kernel
theorem dX12_thresholds_104 : decode cX12_thresholds 104 = .ok (.iload 5, 2) := by decide +kernel
theorem dX12_thresholds_106 : decode cX12_thresholds 106 = .ok (.iaload, 1) := by decide +kernel
theorem dX12_thresholds_107 : decode cX12_thresholds 107 = .ok (.aload_n 0, 1) := by decide +kernel
theorem dX12_thresholds_108 : decode cX12_thresholds 108 = .ok (.getfield 32, 3) := by decide +kernel
theorem dX12_thresholds_111 : decode cX12_thresholds 111 = .ok (.iload 7, 2) := by decide +kernel
theorem dX12_thresholds_113 : decode cX12_thresholds 113 = .ok (.iaload, 1) := by decide +kernel
theorem dX12_thresholds_114 : decode cX12_thresholds 114 = .ok (.if_icmp .gt 27, 3) := by decide +kernel
theorem dX12_thresholds_117 : decode cX12_thresholds 117 = .ok (.aload_n 0, 1) := by decide +kernel
theorem dX12_thresholds_118 : decode cX12_thresholds 118 = .ok (.getfield 32, 3) := by decide +kernel
theorem dX12_thresholds_121 : decode cX12_thresholds 121 = .ok (.iload 5, 2) := by decide +kernel
theorem dX12_thresholds_123 : decode cX12_thresholds 123 = .ok (.iaload, 1) := by decide +kernel
theorem dX12_thresholds_124 : decode cX12_thresholds 124 = .ok (.aload_n 0, 1) := by decide +kernel
theorem dX12_thresholds_125 : decode cX12_thresholds 125 = .ok (.getfield 32, 3) := by decide +kernel
theorem dX12_thresholds_128 : decode cX12_thresholds 128 = .ok (.iload 7, 2) := by decide +kernel
theorem dX12_thresholds_130 : decode cX12_thresholds 130 = .ok (.iaload, 1) := by decide +kernel
theorem dX12_thresholds_131 : decode cX12_thresholds 131 = .ok (.if_icmp .ne 14, 3) := by decide +kernel
theorem dX12_thresholds_134 : decode cX12_thresholds 134 = .ok (.iload 5, 2) := by decide +kernel
theorem dX12_thresholds_136 : decode cX12_thresholds 136 = .ok (.iload 7, 2) := by decide +kernel
theorem dX12_thresholds_138 : decode cX12_thresholds 138 = .ok (.if_icmp .ge 7, 3) := by decide +kernel
theorem dX12_thresholds_141 : decode cX12_thresholds 141 = .ok (.iconst 1, 1) := by decide +kernel
theorem dX12_thresholds_142 : decode cX12_thresholds 142 = .ok (.goto 4, 3) := by decide +kernel
theorem dX12_thresholds_145 : decode cX12_thresholds 145 = .ok (.iconst 0, 1) := by decide +kernel
theorem dX12_thresholds_146 : decode cX12_thresholds 146 = .ok (.istore 6, 2) := by decide +kernel
theorem dX12_thresholds_148 : decode cX12_thresholds 148 = .ok (.iinc 7 1, 3) := by decide +kernel
theorem dX12_thresholds_151 : decode cX12_thresholds 151 = .ok (.goto (-123), 3) := by decide +kernel
theorem dX12_thresholds_154 : decode cX12_thresholds 154 = .ok (.iload 4, 2) := by decide +kernel
theorem dX12_thresholds_156 : decode cX12_thresholds 156 = .ok (.iload 6, 2) := by decide +kernel
theorem dX12_thresholds_158 : decode cX12_thresholds 158 = .ok (.ifCond .eq 13, 3) := by decide +kernel
theorem dX12_thresholds_161 : decode cX12_thresholds 161 = .ok (.aload_n 0, 1) := by decide +kernel
theorem dX12_thresholds_162 : decode cX12_thresholds 162 = .ok (.getfield 32, 3) := by decide +kernel
theorem dX12_thresholds_165 : decode cX12_thresholds 165 = .ok (.iload 5, 2) := by decide +kernel
theorem dX12_thresholds_167 : decode cX12_thresholds 167 = .ok (.iaload, 1) := by decide +kernel
theorem dX12_thresholds_168 : decode cX12_thresholds 168 = .ok (.goto 4, 3) := by decide +kernel
theorem dX12_thresholds_171 : decode cX12_thresholds 171 = .ok (.iconst 0, 1) := by decide +kernel
theorem dX12_thresholds_172 : decode cX12_thresholds 172 = .ok (.iadd, 1) := by decide +kernel
theorem dX12_thresholds_173 : decode cX12_thresholds 173 = .ok (.istore 4, 2) := by decide +kernel
theorem dX12_thresholds_175 : decode cX12_thresholds 175 = .ok (.iload_n 3, 1) := by decide +kernel
theorem dX12_thresholds_176 : decode cX12_thresholds 176 = .ok (.ifCond .eq 12, 3) := by decide +kernel
theorem dX12_thresholds_179 : decode cX12_thresholds 179 = .ok (.aload_n 0, 1) := by decide +kernel
theorem dX12_thresholds_180 : decode cX12_thresholds 180 = .ok (.getfield 85, 3) := by decide +kernel
theorem dX12_thresholds_183 : decode cX12_thresholds 183 = .ok (.iload 5, 2) := by decide +kernel
theorem dX12_thresholds_185 : decode cX12_thresholds 185 = .ok (.iload 6, 2) := by decide +kernel
theorem dX12_thresholds_187 : decode cX12_thresholds 187 = .ok (.bastore, 1) := by decide +kernel
theorem dX12_thresholds_188 : decode cX12_thresholds 188 = .ok (.iinc 5 1, 3) := by decide +kernel
theorem dX12_thresholds_191 : decode cX12_thresholds 191 = .ok (.goto (-185), 3) := by decide +kernel
theorem dX12_thresholds_194 : decode cX12_thresholds 194 = .ok (.iload 4, 2) := by decide +kernel
theorem dX12_thresholds_196 : decode cX12_thresholds 196 = .ok (.ireturn, 1) := by decide +kernel
set_option maxRecDepth 20000 in
theorem ggX12_canThreshold_X12_leftOf : GoodIn wsX12_canThreshold wsX12_leftOf := goodIn_ca (goodIn_r _ [9, 10, 11, 12, 13, 14, 15, 16, 17, 18, 19, 20, 21, 22, 23, 24, 25, 26, 27, 28, 29, 30, 31, 32, 33, 34, 35, 36, 37, 38, 39, 40, 41, 42, 43, 44, 45, 46, 47, 48, 49] (by decide +kernel) (by decide +kernel)) (goodIn_sub (fun _ h => List.mem_cons_of_mem _ (List.mem_append_right _ h)) (by decide +kernel))
set_option maxRecDepth 20000 in
theorem gX12_canThreshold_X12_leftOf : GoodIn wsX12_canThreshold (wsV RX12 128 RX12 yX12_leftOf wsX12_leftOf) := goodIn_app (goodIn_of _ (by decide +kernel)) ggX12_canThreshold_X12_leftOf
theorem dX12_canThreshold_0 : decode cX12_canThreshold 0 = .ok (.aload_n 0, 1) := by decide +kernel
theorem dX12_canThreshold_1 : decode cX12_canThreshold 1 = .ok (.getfield 26, 3) := by decide +kernel
theorem dX12_canThreshold_4 : decode cX12_canThreshold 4 = .ok (.iload_n 1, 1) := by decide +kernel
theorem dX12_canThreshold_5 : decode cX12_canThreshold 5 = .ok (.caload, 1) := by decide +kernel
theorem dX12_canThreshold_6 : decode cX12_canThreshold 6 = .ok (.bipush 116, 2) := by decide +kernel
theorem dX12_canThreshold_8 : decode cX12_canThreshold 8 = .ok (.if_icmp .ne 52, 3) := by decide +kernel
theorem dX12_canThreshold_11 : decode cX12_canThreshold 11 = .ok (.aload_n 0, 1) := by decide +kernel
theorem dX12_canThreshold_12 : decode cX12_canThreshold 12 = .ok (.iload_n 1, 1) := by decide +kernel
theorem dX12_canThreshold_13 : decode cX12_canThreshold 13 = .ok (.invokevirtual 128, 3) := by decide +kernel
theorem dX12_canThreshold_16 : decode cX12_canThreshold 16 = .ok (.ifCond .le 44, 3) := by decide +kernel
theorem dX12_canThreshold_19 : decode cX12_canThreshold 19 = .ok (.iload_n 3, 1) := by decide +kernel
theorem dX12_canThreshold_20 : decode cX12_canThreshold 20 = .ok (.iload_n 2, 1) := by decide +kernel
theorem dX12_canThreshold_21 : decode cX12_canThreshold 21 = .ok (.isub, 1) := by decide +kernel
theorem dX12_canThreshold_22 : decode cX12_canThreshold 22 = .ok (.aload_n 0, 1) := by decide +kernel
theorem dX12_canThreshold_23 : decode cX12_canThreshold 23 = .ok (.getfield 29, 3) := by decide +kernel
theorem dX12_canThreshold_26 : decode cX12_canThreshold 26 = .ok (.iload_n 1, 1) := by decide +kernel
theorem dX12_canThreshold_27 : decode cX12_canThreshold 27 = .ok (.iaload, 1) := by decide +kernel
theorem dX12_canThreshold_28 : decode cX12_canThreshold 28 = .ok (.if_icmp .lt 32, 3) := by decide +kernel
theorem dX12_canThreshold_31 : decode cX12_canThreshold 31 = .ok (.aload_n 0, 1) := by decide +kernel
theorem dX12_canThreshold_32 : decode cX12_canThreshold 32 = .ok (.getfield 44, 3) := by decide +kernel
theorem dX12_canThreshold_35 : decode cX12_canThreshold 35 = .ok (.iload_n 1, 1) := by decide +kernel
theorem dX12_canThreshold_36 : decode cX12_canThreshold 36 = .ok (.iaload, 1) := by decide +kernel
theorem dX12_canThreshold_37 : decode cX12_canThreshold 37 = .ok (.iconst (-1), 1) := by decide +kernel
theorem dX12_canThreshold_38 : decode cX12_canThreshold 38 = .ok (.if_icmp .eq 18, 3) := by decide +kernel
theorem dX12_canThreshold_41 : decode cX12_canThreshold 41 = .ok (.aload_n 0, 1) := by decide +kernel
theorem dX12_canThreshold_42 : decode cX12_canThreshold 42 = .ok (.getfield 61, 3) := by decide +kernel
theorem dX12_canThreshold_45 : decode cX12_canThreshold 45 = .ok (.aload_n 0, 1) := by decide +kernel
theorem dX12_canThreshold_46 : decode cX12_canThreshold 46 = .ok (.getfield 44, 3) := by decide +kernel
theorem dX12_canThreshold_49 : decode cX12_canThreshold 49 = .ok (.iload_n 1, 1) := by decide +kernel
theorem dX12_canThreshold_50 : decode cX12_canThreshold 50 = .ok (.iaload, 1) := by decide +kernel
theorem dX12_canThreshold_51 : decode cX12_canThreshold 51 = .ok (.iaload, 1) := by decide +kernel
theorem dX12_canThreshold_52 : decode cX12_canThreshold 52 = .ok (.iconst (-1), 1) := by decide +kernel
theorem dX12_canThreshold_53 : decode cX12_canThreshold 53 = .ok (.if_icmp .ne 7, 3) := by decide +kernel
theorem dX12_canThreshold_56 : decode cX12_canThreshold 56 = .ok (.iconst 1, 1) := by decide +kernel
theorem dX12_canThreshold_57 : decode cX12_canThreshold 57 = .ok (.goto 4, 3) := by decide +kernel
theorem dX12_canThreshold_60 : decode cX12_canThreshold 60 = .ok (.iconst 0, 1) := by decide +kernel
theorem dX12_canThreshold_61 : decode cX12_canThreshold 61 = .ok (.ireturn, 1) := by decide +kernel
set_option maxRecDepth 20000 in
theorem ggX12_hopes_X12_canThreshold : GoodIn wsX12_hopes wsX12_canThreshold := goodIn_ca (goodIn_r _ [7, 8, 9, 10, 11, 12, 13, 14, 6, 15, 16, 17, 18, 19, 20, 21, 22, 23, 24, 25, 26, 27, 28, 29, 30, 31, 32, 33, 34, 35, 36, 37, 38, 39, 40, 41, 42, 43, 44, 45, 46, 47, 48, 49, 50, 51, 52, 53, 54, 55] (by decide +kernel) (by decide +kernel)) (goodIn_sub (fun _ h => List.mem_cons_of_mem _ (List.mem_append_right _ h)) (by decide +kernel))
set_option maxRecDepth 20000 in
theorem gX12_hopes_X12_canThreshold : GoodIn wsX12_hopes (wsV RX12 162 RX12 yX12_canThreshold wsX12_canThreshold) := goodIn_app (goodIn_of _ (by decide +kernel)) ggX12_hopes_X12_canThreshold
theorem dX12_hopes_0 : decode cX12_hopes 0 = .ok (.iconst 0, 1) := by decide +kernel
theorem dX12_hopes_1 : decode cX12_hopes 1 = .ok (.istore_n 3, 1) := by decide +kernel
theorem dX12_hopes_2 : decode cX12_hopes 2 = .ok (.iconst 0, 1) := by decide +kernel
theorem dX12_hopes_3 : decode cX12_hopes 3 = .ok (.istore 4, 2) := by decide +kernel
theorem dX12_hopes_5 : decode cX12_hopes 5 = .ok (.iload 4, 2) := by decide +kernel
theorem dX12_hopes_7 : decode cX12_hopes 7 = .ok (.aload_n 0, 1) := by decide +kernel
theorem dX12_hopes_8 : decode cX12_hopes 8 = .ok (.getfield 121, 3) := by decide +kernel
theorem dX12_hopes_11 : decode cX12_hopes 11 = .ok (.if_icmp .ge 34, 3) := by decide +kernel
theorem dX12_hopes_14 : decode cX12_hopes 14 = .ok (.iload_n 3, 1) := by decide +kernel
theorem dX12_hopes_15 : decode cX12_hopes 15 = .ok (.aload_n 0, 1) := by decide +kernel
theorem dX12_hopes_16 : decode cX12_hopes 16 = .ok (.iload 4, 2) := by decide +kernel
theorem dX12_hopes_18 : decode cX12_hopes 18 = .ok (.iload_n 1, 1) := by decide +kernel
theorem dX12_hopes_19 : decode cX12_hopes 19 = .ok (.iload_n 2, 1) := by decide +kernel
theorem dX12_hopes_20 : decode cX12_hopes 20 = .ok (.invokevirtual 162, 3) := by decide +kernel
theorem dX12_hopes_23 : decode cX12_hopes 23 = .ok (.ifCond .eq 13, 3) := by decide +kernel
theorem dX12_hopes_26 : decode cX12_hopes 26 = .ok (.aload_n 0, 1) := by decide +kernel
theorem dX12_hopes_27 : decode cX12_hopes 27 = .ok (.getfield 32, 3) := by decide +kernel
theorem dX12_hopes_30 : decode cX12_hopes 30 = .ok (.iload 4, 2) := by decide +kernel
theorem dX12_hopes_32 : decode cX12_hopes 32 = .ok (.iaload, 1) := by decide +kernel
theorem dX12_hopes_33 : decode cX12_hopes 33 = .ok (.goto 4, 3) := by decide +kernel
theorem dX12_hopes_36 : decode cX12_hopes 36 = .ok (.iconst 0, 1) := by decide +kernel
theorem dX12_hopes_37 : decode cX12_hopes 37 = .ok (.iadd, 1) := by decide +kernel
theorem dX12_hopes_38 : decode cX12_hopes 38 = .ok (.istore_n 3, 1) := by decide +kernel
theorem dX12_hopes_39 : decode cX12_hopes 39 = .ok (.iinc 4 1, 3) := by decide +kernel
theorem dX12_hopes_42 : decode cX12_hopes 42 = .ok (.goto (-37), 3) := by decide +kernel
theorem dX12_hopes_45 : decode cX12_hopes 45 = .ok (.iload_n 3, 1) := by decide +kernel
theorem dX12_hopes_46 : decode cX12_hopes 46 = .ok (.ireturn, 1) := by decide +kernel
set_option maxRecDepth 20000 in
theorem ggX12_mayUse_X12_leftOf : GoodIn wsX12_mayUse wsX12_leftOf := goodIn_ca (goodIn_r _ [9, 10, 11, 12, 13, 14, 15, 16, 17, 18, 19, 20, 21, 22, 23, 24, 25, 26, 27, 28, 29, 30, 31, 32, 33, 34, 35, 36, 37, 38, 39, 40, 41, 42, 43, 44, 45, 46, 47, 48, 49] (by decide +kernel) (by decide +kernel)) (goodIn_sub (fun _ h => List.mem_cons_of_mem _ (List.mem_append_right _ h)) (by decide +kernel))
set_option maxRecDepth 20000 in
theorem gX12_mayUse_X12_leftOf : GoodIn wsX12_mayUse (wsV RX12 128 RX12 yX12_leftOf wsX12_leftOf) := goodIn_app (goodIn_of _ (by decide +kernel)) ggX12_mayUse_X12_leftOf
theorem dX12_mayUse_0 : decode cX12_mayUse 0 = .ok (.aload_n 0, 1) := by decide +kernel
theorem dX12_mayUse_1 : decode cX12_mayUse 1 = .ok (.getfield 26, 3) := by decide +kernel
theorem dX12_mayUse_4 : decode cX12_mayUse 4 = .ok (.iload_n 1, 1) := by decide +kernel
theorem dX12_mayUse_5 : decode cX12_mayUse 5 = .ok (.caload, 1) := by decide +kernel
theorem dX12_mayUse_6 : decode cX12_mayUse 6 = .ok (.bipush 116, 2) := by decide +kernel
theorem dX12_mayUse_8 : decode cX12_mayUse 8 = .ok (.if_icmp .eq 61, 3) := by decide +kernel
theorem dX12_mayUse_11 : decode cX12_mayUse 11 = .ok (.aload_n 0, 1) := by decide +kernel
theorem dX12_mayUse_12 : decode cX12_mayUse 12 = .ok (.getfield 58, 3) := by decide +kernel
theorem dX12_mayUse_15 : decode cX12_mayUse 15 = .ok (.iload_n 1, 1) := by decide +kernel
theorem dX12_mayUse_16 : decode cX12_mayUse 16 = .ok (.iaload, 1) := by decide +kernel
theorem dX12_mayUse_17 : decode cX12_mayUse 17 = .ok (.aload_n 0, 1) := by decide +kernel
theorem dX12_mayUse_18 : decode cX12_mayUse 18 = .ok (.iload_n 1, 1) := by decide +kernel
theorem dX12_mayUse_19 : decode cX12_mayUse 19 = .ok (.invokevirtual 128, 3) := by decide +kernel
theorem dX12_mayUse_22 : decode cX12_mayUse 22 = .ok (.if_icmp .ge 47, 3) := by decide +kernel
theorem dX12_mayUse_25 : decode cX12_mayUse 25 = .ok (.aload_n 0, 1) := by decide +kernel
theorem dX12_mayUse_26 : decode cX12_mayUse 26 = .ok (.getfield 44, 3) := by decide +kernel
theorem dX12_mayUse_29 : decode cX12_mayUse 29 = .ok (.iload_n 1, 1) := by decide +kernel
theorem dX12_mayUse_30 : decode cX12_mayUse 30 = .ok (.iaload, 1) := by decide +kernel
theorem dX12_mayUse_31 : decode cX12_mayUse 31 = .ok (.iconst (-1), 1) := by decide +kernel
theorem dX12_mayUse_32 : decode cX12_mayUse 32 = .ok (.if_icmp .eq 33, 3) := by decide +kernel
theorem dX12_mayUse_35 : decode cX12_mayUse 35 = .ok (.aload_n 0, 1) := by decide +kernel
theorem dX12_mayUse_36 : decode cX12_mayUse 36 = .ok (.getfield 61, 3) := by decide +kernel
theorem dX12_mayUse_39 : decode cX12_mayUse 39 = .ok (.aload_n 0, 1) := by decide +kernel
theorem dX12_mayUse_40 : decode cX12_mayUse 40 = .ok (.getfield 44, 3) := by decide +kernel
theorem dX12_mayUse_43 : decode cX12_mayUse 43 = .ok (.iload_n 1, 1) := by decide +kernel
theorem dX12_mayUse_44 : decode cX12_mayUse 44 = .ok (.iaload, 1) := by decide +kernel
theorem dX12_mayUse_45 : decode cX12_mayUse 45 = .ok (.iaload, 1) := by decide +kernel
theorem dX12_mayUse_46 : decode cX12_mayUse 46 = .ok (.iconst (-1), 1) := by decide +kernel
theorem dX12_mayUse_47 : decode cX12_mayUse 47 = .ok (.if_icmp .eq 18, 3) := by decide +kernel
theorem dX12_mayUse_50 : decode cX12_mayUse 50 = .ok (.aload_n 0, 1) := by decide +kernel
theorem dX12_mayUse_51 : decode cX12_mayUse 51 = .ok (.getfield 61, 3) := by decide +kernel
theorem dX12_mayUse_54 : decode cX12_mayUse 54 = .ok (.aload_n 0, 1) := by decide +kernel
theorem dX12_mayUse_55 : decode cX12_mayUse 55 = .ok (.getfield 44, 3) := by decide +kernel
theorem dX12_mayUse_58 : decode cX12_mayUse 58 = .ok (.iload_n 1, 1) := by decide +kernel
theorem dX12_mayUse_59 : decode cX12_mayUse 59 = .ok (.iaload, 1) := by decide +kernel
theorem dX12_mayUse_60 : decode cX12_mayUse 60 = .ok (.iaload, 1) := by decide +kernel
theorem dX12_mayUse_61 : decode cX12_mayUse 61 = .ok (.iload_n 1, 1) := by decide +kernel
theorem dX12_mayUse_62 : decode cX12_mayUse 62 = .ok (.if_icmp .ne 7, 3) := by decide +kernel
theorem dX12_mayUse_65 : decode cX12_mayUse 65 = .ok (.iconst 1, 1) := by decide +kernel
theorem dX12_mayUse_66 : decode cX12_mayUse 66 = .ok (.goto 4, 3) := by decide +kernel
theorem dX12_mayUse_69 : decode cX12_mayUse 69 = .ok (.iconst 0, 1) := by decide +kernel
theorem dX12_mayUse_70 : decode cX12_mayUse 70 = .ok (.ireturn, 1) := by decide +kernel
set_option maxRecDepth 20000 in
theorem ggX12_goes_X12_thresholds : GoodIn wsX12_goes wsX12_thresholds := goodIn_ca (goodIn_r _ [20, 8, 21, 22, 23, 24, 25, 26, 19, 27, 28, 29, 30, 31, 32, 33, 34, 35, 36, 37, 101, 102, 103, 104, 105, 106, 107, 108, 109, 110, 111, 112, 113, 114, 115, 116, 117, 118, 119, 120, 121, 122, 123, 124, 125, 126, 127, 128, 129, 130, 131, 132, 133, 134, 135, 136, 137] (by decide +kernel) (by decide +kernel)) (goodIn_sub (fun _ h => List.mem_cons_of_mem _ (List.mem_append_right _ h)) (by decide +kernel))
set_option maxRecDepth 20000 in
theorem gX12_goes_X12_thresholds : GoodIn wsX12_goes (wsV RX12 165 RX12 yX12_thresholds wsX12_thresholds) := goodIn_app (goodIn_of _ (by decide +kernel)) ggX12_goes_X12_thresholds
set_option maxRecDepth 20000 in
theorem ggX12_goes_X12_goes : GoodIn wsX12_goes wsX12_goes := goodIn_ca (goodIn_r _ [0, 1, 2, 3, 4, 5, 6, 7, 8, 9, 10, 11, 12, 13, 14, 15, 16, 17, 18, 19, 20, 21, 22, 23, 24, 25, 26, 27, 28, 29, 30, 31, 32, 33, 34, 35, 36, 37, 38, 39, 40, 41, 42, 43, 44, 45, 46, 47, 48, 49, 50, 51, 52, 53, 54, 55, 56, 57, 58, 59, 60, 61, 62, 63, 64, 65, 66, 67, 68, 69, 70, 71, 72, 73, 74, 75, 76, 77, 78, 79, 80, 81, 82, 83, 84, 85, 86, 87, 88, 89, 90, 91, 92, 93, 94, 95, 96, 97, 98, 99, 100, 101, 102, 103, 104, 105, 106, 107, 108, 109, 110, 111, 112, 113, 114, 115, 116, 117, 118, 119, 120, 121, 122, 123, 124, 125, 126, 127, 128, 129, 130, 131, 132, 133, 134, 135, 136, 137] (by decide +kernel) (by decide +kernel)) (goodIn_sub (fun _ h => List.mem_cons_of_mem _ (List.mem_append_right _ h)) (by decide +kernel))
set_option maxRecDepth 20000 in
theorem gX12_goes_X12_goes : GoodIn wsX12_goes (wsV RX12 181 RX12 yX12_goes wsX12_goes) := goodIn_app (goodIn_of _ (by decide +kernel)) ggX12_goes_X12_goes
set_option maxRecDepth 20000 in
theorem ggX12_goes_X12_hopes : GoodIn wsX12_goes wsX12_hopes := goodIn_ca (goodIn_r _ [44, 8, 22, 24, 25, 26, 19, 27, 28, 29, 21, 30, 31, 32, 33, 34, 35, 36, 37, 101, 102, 103, 104, 105, 106, 107, 108, 109, 110, 111, 112, 113, 114, 115, 116, 117, 118, 119, 120, 121, 122, 123, 124, 125, 126, 127, 128, 129, 130, 131, 132, 133, 134, 135, 136, 137] (by decide +kernel) (by decide +kernel)) (goodIn_sub (fun _ h => List.mem_cons_of_mem _ (List.mem_append_right _ h)) (by decide +kernel))
set_option maxRecDepth 20000 in
theorem gX12_goes_X12_hopes : GoodIn wsX12_goes (wsV RX12 185 RX12 yX12_hopes wsX12_hopes) := goodIn_app (goodIn_of _ (by decide +kernel)) ggX12_goes_X12_hopes
set_option maxRecDepth 20000 in
theorem ggX12_goes_X12_mayUse : GoodIn wsX12_goes wsX12_mayUse := goodIn_ca (goodIn_r _ [48, 28, 10, 21, 30, 31, 32, 33, 19, 34, 35, 36, 37, 101, 102, 103, 104, 105, 106, 107, 108, 109, 110, 111, 112, 113, 114, 115, 116, 117, 118, 119, 120, 121, 122, 123, 124, 125, 126, 127, 128, 129, 130, 131, 132, 133, 134, 135, 136, 137] (by decide +kernel) (by decide +kernel)) (goodIn_sub (fun _ h => List.mem_cons_of_mem _ (List.mem_append_right _ h)) (by decide +kernel))
set_option maxRecDepth 20000 in
theorem gX12_goes_X12_mayUse : GoodIn wsX12_goes (wsV RX12 187 RX12 yX12_mayUse wsX12_mayUse) := goodIn_app (goodIn_of _ (by decide +kernel)) ggX12_goes_X12_mayUse
set_option maxRecDepth 20000 in
theorem ggX12_goes_X12_chooses : GoodIn wsX12_goes wsX12_chooses := goodIn_ca (goodIn_r _ [52, 1, 53, 54, 55, 56, 57, 58, 59, 60, 61, 62, 19, 63, 28, 22, 64, 65, 66, 67, 68, 69, 70, 71, 72, 73, 74, 75, 76, 77, 78, 79, 80, 81, 82, 29, 83, 84, 85, 86, 87, 88, 89, 90, 91, 92, 93, 94, 95, 96, 97, 98, 99, 49, 50, 51, 0, 2, 3, 4, 5, 6, 7, 8, 9, 10, 11, 12, 13, 14, 15, 16, 17, 18, 20, 21, 23, 24, 25, 26, 27, 30, 31, 32, 33, 34, 35, 36, 37, 38, 39, 40, 41, 42, 43, 44, 45, 46, 47, 48, 100, 101, 102, 103, 104, 105, 106, 107, 108, 109, 110, 111, 112, 113, 114, 115, 116, 117, 118, 119, 120, 121, 122, 123, 124, 125, 126, 127, 128, 129, 130, 131, 132, 133, 134, 135, 136, 137] (by decide +kernel) (by decide +kernel)) (goodIn_sub (fun _ h => List.mem_cons_of_mem _ (List.mem_append_right _ h)) (by decide +kernel))
set_option maxRecDepth 20000 in
theorem gX12_goes_X12_chooses : GoodIn wsX12_goes (wsV RX12 190 RX12 yX12_chooses wsX12_chooses) := goodIn_app (goodIn_of _ (by decide +kernel)) ggX12_goes_X12_chooses
theorem dX12_goes_0 : decode cX12_goes 0 = .ok (.iload_n 1, 1) := by decide +kernel
theorem dX12_goes_1 : decode cX12_goes 1 = .ok (.aload_n 0, 1) := by decide +kernel
theorem dX12_goes_2 : decode cX12_goes 2 = .ok (.getfield 93, 3) := by decide +kernel
theorem dX12_goes_5 : decode cX12_goes 5 = .ok (.if_icmp .ne 164, 3) := by decide +kernel
theorem dX12_goes_8 : decode cX12_goes 8 = .ok (.iload_n 3, 1) := by decide +kernel
theorem dX12_goes_9 : decode cX12_goes 9 = .ok (.aload_n 0, 1) := by decide +kernel
theorem dX12_goes_10 : decode cX12_goes 10 = .ok (.iload_n 3, 1) := by decide +kernel
theorem dX12_goes_11 : decode cX12_goes 11 = .ok (.iload 4, 2) := by decide +kernel
theorem dX12_goes_13 : decode cX12_goes 13 = .ok (.iconst 0, 1) := by decide +kernel
theorem dX12_goes_14 : decode cX12_goes 14 = .ok (.invokevirtual 165, 3) := by decide +kernel
theorem dX12_goes_17 : decode cX12_goes 17 = .ok (.iadd, 1) := by decide +kernel
theorem dX12_goes_18 : decode cX12_goes 18 = .ok (.istore 5, 2) := by decide +kernel
theorem dX12_goes_20 : decode cX12_goes 20 = .ok (.iload 5, 2) := by decide +kernel
theorem dX12_goes_22 : decode cX12_goes 22 = .ok (.aload_n 0, 1) := by decide +kernel
theorem dX12_goes_23 : decode cX12_goes 23 = .ok (.getfield 169, 3) := by decide +kernel
theorem dX12_goes_26 : decode cX12_goes 26 = .ok (.if_icmp .le 142, 3) := by decide +kernel
theorem dX12_goes_29 : decode cX12_goes 29 = .ok (.aload_n 0, 1) := by decide +kernel
theorem dX12_goes_30 : decode cX12_goes 30 = .ok (.iload 5, 2) := by decide +kernel
theorem dX12_goes_32 : decode cX12_goes 32 = .ok (.putfield 169, 3) := by decide +kernel
theorem dX12_goes_35 : decode cX12_goes 35 = .ok (.aload_n 0, 1) := by decide +kernel
theorem dX12_goes_36 : decode cX12_goes 36 = .ok (.iload_n 3, 1) := by decide +kernel
theorem dX12_goes_37 : decode cX12_goes 37 = .ok (.putfield 172, 3) := by decide +kernel
theorem dX12_goes_40 : decode cX12_goes 40 = .ok (.aload_n 0, 1) := by decide +kernel
theorem dX12_goes_41 : decode cX12_goes 41 = .ok (.aload_n 0, 1) := by decide +kernel
theorem dX12_goes_42 : decode cX12_goes 42 = .ok (.getfield 175, 3) := by decide +kernel
theorem dX12_goes_45 : decode cX12_goes 45 = .ok (.putfield 178, 3) := by decide +kernel
theorem dX12_goes_48 : decode cX12_goes 48 = .ok (.iconst 0, 1) := by decide +kernel
theorem dX12_goes_49 : decode cX12_goes 49 = .ok (.istore 6, 2) := by decide +kernel
theorem dX12_goes_51 : decode cX12_goes 51 = .ok (.iload 6, 2) := by decide +kernel
theorem dX12_goes_53 : decode cX12_goes 53 = .ok (.aload_n 0, 1) := by decide +kernel
theorem dX12_goes_54 : decode cX12_goes 54 = .ok (.getfield 93, 3) := by decide +kernel
theorem dX12_goes_57 : decode cX12_goes 57 = .ok (.if_icmp .ge 23, 3) := by decide +kernel
theorem dX12_goes_60 : decode cX12_goes 60 = .ok (.aload_n 0, 1) := by decide +kernel
theorem dX12_goes_61 : decode cX12_goes 61 = .ok (.getfield 73, 3) := by decide +kernel
theorem dX12_goes_64 : decode cX12_goes 64 = .ok (.iload 6, 2) := by decide +kernel
theorem dX12_goes_66 : decode cX12_goes 66 = .ok (.aload_n 0, 1) := by decide +kernel
theorem dX12_goes_67 : decode cX12_goes 67 = .ok (.getfield 55, 3) := by decide +kernel
theorem dX12_goes_70 : decode cX12_goes 70 = .ok (.iload 6, 2) := by decide +kernel
theorem dX12_goes_72 : decode cX12_goes 72 = .ok (.iaload, 1) := by decide +kernel
theorem dX12_goes_73 : decode cX12_goes 73 = .ok (.iastore, 1) := by decide +kernel
theorem dX12_goes_74 : decode cX12_goes 74 = .ok (.iinc 6 1, 3) := by decide +kernel
theorem dX12_goes_77 : decode cX12_goes 77 = .ok (.goto (-26), 3) := by decide +kernel
theorem dX12_goes_80 : decode cX12_goes 80 = .ok (.iconst 0, 1) := by decide +kernel
theorem dX12_goes_81 : decode cX12_goes 81 = .ok (.istore 6, 2) := by decide +kernel
theorem dX12_goes_83 : decode cX12_goes 83 = .ok (.iload 6, 2) := by decide +kernel
theorem dX12_goes_85 : decode cX12_goes 85 = .ok (.aload_n 0, 1) := by decide +kernel
theorem dX12_goes_86 : decode cX12_goes 86 = .ok (.getfield 121, 3) := by decide +kernel
theorem dX12_goes_89 : decode cX12_goes 89 = .ok (.if_icmp .ge 23, 3) := by decide +kernel
theorem dX12_goes_92 : decode cX12_goes 92 = .ok (.aload_n 0, 1) := by decide +kernel
theorem dX12_goes_93 : decode cX12_goes 93 = .ok (.getfield 76, 3) := by decide +kernel
theorem dX12_goes_96 : decode cX12_goes 96 = .ok (.iload 6, 2) := by decide +kernel
theorem dX12_goes_98 : decode cX12_goes 98 = .ok (.aload_n 0, 1) := by decide +kernel
theorem dX12_goes_99 : decode cX12_goes 99 = .ok (.getfield 58, 3) := by decide +kernel
theorem dX12_goes_102 : decode cX12_goes 102 = .ok (.iload 6, 2) := by decide +kernel
theorem dX12_goes_104 : decode cX12_goes 104 = .ok (.iaload, 1) := by decide +kernel
theorem dX12_goes_105 : decode cX12_goes 105 = .ok (.iastore, 1) := by decide +kernel
theorem dX12_goes_106 : decode cX12_goes 106 = .ok (.iinc 6 1, 3) := by decide +kernel
theorem dX12_goes_109 : decode cX12_goes 109 = .ok (.goto (-26), 3) := by decide +kernel
theorem dX12_goes_112 : decode cX12_goes 112 = .ok (.iconst 0, 1) := by decide +kernel
theorem dX12_goes_113 : decode cX12_goes 113 = .ok (.istore 6, 2) := by decide +kernel
theorem dX12_goes_115 : decode cX12_goes 115 = .ok (.iload 6, 2) := by decide +kernel
theorem dX12_goes_117 : decode cX12_goes 117 = .ok (.aload_n 0, 1) := by decide +kernel
theorem dX12_goes_118 : decode cX12_goes 118 = .ok (.getfield 175, 3) := by decide +kernel
theorem dX12_goes_121 : decode cX12_goes 121 = .ok (.if_icmp .ge 37, 3) := by decide +kernel
theorem dX12_goes_124 : decode cX12_goes 124 = .ok (.aload_n 0, 1) := by decide +kernel
theorem dX12_goes_125 : decode cX12_goes 125 = .ok (.getfield 79, 3) := by decide +kernel
theorem dX12_goes_128 : decode cX12_goes 128 = .ok (.iload 6, 2) := by decide +kernel
theorem dX12_goes_130 : decode cX12_goes 130 = .ok (.aload_n 0, 1) := by decide +kernel
theorem dX12_goes_131 : decode cX12_goes 131 = .ok (.getfield 64, 3) := by decide +kernel
theorem dX12_goes_134 : decode cX12_goes 134 = .ok (.iload 6, 2) := by decide +kernel
theorem dX12_goes_136 : decode cX12_goes 136 = .ok (.iaload, 1) := by decide +kernel
theorem dX12_goes_137 : decode cX12_goes 137 = .ok (.iastore, 1) := by decide +kernel
theorem dX12_goes_138 : decode cX12_goes 138 = .ok (.aload_n 0, 1) := by decide +kernel
theorem dX12_goes_139 : decode cX12_goes 139 = .ok (.getfield 82, 3) := by decide +kernel
theorem dX12_goes_142 : decode cX12_goes 142 = .ok (.iload 6, 2) := by decide +kernel
theorem dX12_goes_144 : decode cX12_goes 144 = .ok (.aload_n 0, 1) := by decide +kernel
theorem dX12_goes_145 : decode cX12_goes 145 = .ok (.getfield 67, 3) := by decide +kernel
theorem dX12_goes_148 : decode cX12_goes 148 = .ok (.iload 6, 2) := by decide +kernel
theorem dX12_goes_150 : decode cX12_goes 150 = .ok (.iaload, 1) := by decide +kernel
theorem dX12_goes_151 : decode cX12_goes 151 = .ok (.iastore, 1) := by decide +kernel
theorem dX12_goes_152 : decode cX12_goes 152 = .ok (.iinc 6 1, 3) := by decide +kernel
theorem dX12_goes_155 : decode cX12_goes 155 = .ok (.goto (-40), 3) := by decide +kernel
theorem dX12_goes_158 : decode cX12_goes 158 = .ok (.aload_n 0, 1) := by decide +kernel
theorem dX12_goes_159 : decode cX12_goes 159 = .ok (.iload_n 3, 1) := by decide +kernel
theorem dX12_goes_160 : decode cX12_goes 160 = .ok (.iload 4, 2) := by decide +kernel
theorem dX12_goes_162 : decode cX12_goes 162 = .ok (.iconst 1, 1) := by decide +kernel
theorem dX12_goes_163 : decode cX12_goes 163 = .ok (.invokevirtual 165, 3) := by decide +kernel
theorem dX12_goes_166 : decode cX12_goes 166 = .ok (.istore 6, 2) := by decide +kernel
theorem dX12_goes_168 : decode cX12_goes 168 = .ok (.return_, 1) := by decide +kernel
theorem dX12_goes_169 : decode cX12_goes 169 = .ok (.iload_n 2, 1) := by decide +kernel
theorem dX12_goes_170 : decode cX12_goes 170 = .ok (.iload_n 1, 1) := by decide +kernel
theorem dX12_goes_171 : decode cX12_goes 171 = .ok (.ishr, 1) := by decide +kernel
theorem dX12_goes_172 : decode cX12_goes 172 = .ok (.iconst 1, 1) := by decide +kernel
theorem dX12_goes_173 : decode cX12_goes 173 = .ok (.iand, 1) := by decide +kernel
theorem dX12_goes_174 : decode cX12_goes 174 = .ok (.iconst 1, 1) := by decide +kernel
theorem dX12_goes_175 : decode cX12_goes 175 = .ok (.if_icmp .ne 15, 3) := by decide +kernel
theorem dX12_goes_178 : decode cX12_goes 178 = .ok (.aload_n 0, 1) := by decide +kernel
theorem dX12_goes_179 : decode cX12_goes 179 = .ok (.iload_n 1, 1) := by decide +kernel
theorem dX12_goes_180 : decode cX12_goes 180 = .ok (.iconst 1, 1) := by decide +kernel
theorem dX12_goes_181 : decode cX12_goes 181 = .ok (.iadd, 1) := by decide +kernel
theorem dX12_goes_182 : decode cX12_goes 182 = .ok (.iload_n 2, 1) := by decide +kernel
theorem dX12_goes_183 : decode cX12_goes 183 = .ok (.iload_n 3, 1) := by decide +kernel
theorem dX12_goes_184 : decode cX12_goes 184 = .ok (.iload 4, 2) := by decide +kernel
theorem dX12_goes_186 : decode cX12_goes 186 = .ok (.invokevirtual 181, 3) := by decide +kernel
theorem dX12_goes_189 : decode cX12_goes 189 = .ok (.return_, 1) := by decide +kernel
theorem dX12_goes_190 : decode cX12_goes 190 = .ok (.iload_n 3, 1) := by decide +kernel
theorem dX12_goes_191 : decode cX12_goes 191 = .ok (.aload_n 0, 1) := by decide +kernel
theorem dX12_goes_192 : decode cX12_goes 192 = .ok (.getfield 70, 3) := by decide +kernel
theorem dX12_goes_195 : decode cX12_goes 195 = .ok (.iload_n 1, 1) := by decide +kernel
theorem dX12_goes_196 : decode cX12_goes 196 = .ok (.iaload, 1) := by decide +kernel
theorem dX12_goes_197 : decode cX12_goes 197 = .ok (.iadd, 1) := by decide +kernel
theorem dX12_goes_198 : decode cX12_goes 198 = .ok (.aload_n 0, 1) := by decide +kernel
theorem dX12_goes_199 : decode cX12_goes 199 = .ok (.iload_n 3, 1) := by decide +kernel
theorem dX12_goes_200 : decode cX12_goes 200 = .ok (.iload 4, 2) := by decide +kernel
theorem dX12_goes_202 : decode cX12_goes 202 = .ok (.invokevirtual 185, 3) := by decide +kernel
theorem dX12_goes_205 : decode cX12_goes 205 = .ok (.iadd, 1) := by decide +kernel
theorem dX12_goes_206 : decode cX12_goes 206 = .ok (.aload_n 0, 1) := by decide +kernel
theorem dX12_goes_207 : decode cX12_goes 207 = .ok (.getfield 169, 3) := by decide +kernel
theorem dX12_goes_210 : decode cX12_goes 210 = .ok (.if_icmp .gt 4, 3) := by decide +kernel
theorem dX12_goes_213 : decode cX12_goes 213 = .ok (.return_, 1) := by decide +kernel
theorem dX12_goes_214 : decode cX12_goes 214 = .ok (.iconst 0, 1) := by decide +kernel
theorem dX12_goes_215 : decode cX12_goes 215 = .ok (.istore 5, 2) := by decide +kernel
theorem dX12_goes_217 : decode cX12_goes 217 = .ok (.iload 5, 2) := by decide +kernel
theorem dX12_goes_219 : decode cX12_goes 219 = .ok (.aload_n 0, 1) := by decide +kernel
theorem dX12_goes_220 : decode cX12_goes 220 = .ok (.getfield 121, 3) := by decide +kernel
theorem dX12_goes_223 : decode cX12_goes 223 = .ok (.if_icmp .ge 35, 3) := by decide +kernel
theorem dX12_goes_226 : decode cX12_goes 226 = .ok (.aload_n 0, 1) := by decide +kernel
theorem dX12_goes_227 : decode cX12_goes 227 = .ok (.iload 5, 2) := by decide +kernel
theorem dX12_goes_229 : decode cX12_goes 229 = .ok (.invokevirtual 187, 3) := by decide +kernel
theorem dX12_goes_232 : decode cX12_goes 232 = .ok (.ifCond .eq 20, 3) := by decide +kernel
theorem dX12_goes_235 : decode cX12_goes 235 = .ok (.aload_n 0, 1) := by decide +kernel
theorem dX12_goes_236 : decode cX12_goes 236 = .ok (.iload 5, 2) := by decide +kernel
theorem dX12_goes_238 : decode cX12_goes 238 = .ok (.iload_n 1, 1) := by decide +kernel
theorem dX12_goes_239 : decode cX12_goes 239 = .ok (.iconst 1, 1) := by decide +kernel
theorem dX12_goes_240 : decode cX12_goes 240 = .ok (.iload_n 1, 1) := by decide +kernel
theorem dX12_goes_241 : decode cX12_goes 241 = .ok (.ishl, 1) := by decide +kernel
theorem dX12_goes_242 : decode cX12_goes 242 = .ok (.iload_n 1, 1) := by decide +kernel
theorem dX12_goes_243 : decode cX12_goes 243 = .ok (.iconst 1, 1) := by decide +kernel
theorem dX12_goes_244 : decode cX12_goes 244 = .ok (.iadd, 1) := by decide +kernel
theorem dX12_goes_245 : decode cX12_goes 245 = .ok (.iload_n 2, 1) := by decide +kernel
theorem dX12_goes_246 : decode cX12_goes 246 = .ok (.iload_n 3, 1) := by decide +kernel
theorem dX12_goes_247 : decode cX12_goes 247 = .ok (.iload 4, 2) := by decide +kernel
theorem dX12_goes_249 : decode cX12_goes 249 = .ok (.invokevirtual 190, 3) := by decide +kernel
theorem dX12_goes_252 : decode cX12_goes 252 = .ok (.iinc 5 1, 3) := by decide +kernel
theorem dX12_goes_255 : decode cX12_goes 255 = .ok (.goto (-38), 3) := by decide +kernel
theorem dX12_goes_258 : decode cX12_goes 258 = .ok (.aload_n 0, 1) := by decide +kernel
theorem dX12_goes_259 : decode cX12_goes 259 = .ok (.getfield 55, 3) := by decide +kernel
theorem dX12_goes_262 : decode cX12_goes 262 = .ok (.iload_n 1, 1) := by decide +kernel
theorem dX12_goes_263 : decode cX12_goes 263 = .ok (.iconst (-1), 1) := by decide +kernel
theorem dX12_goes_264 : decode cX12_goes 264 = .ok (.iastore, 1) := by decide +kernel
theorem dX12_goes_265 : decode cX12_goes 265 = .ok (.aload_n 0, 1) := by decide +kernel
theorem dX12_goes_266 : decode cX12_goes 266 = .ok (.iload_n 1, 1) := by decide +kernel
theorem dX12_goes_267 : decode cX12_goes 267 = .ok (.iconst 1, 1) := by decide +kernel
theorem dX12_goes_268 : decode cX12_goes 268 = .ok (.iadd, 1) := by decide +kernel
theorem dX12_goes_269 : decode cX12_goes 269 = .ok (.iload_n 2, 1) := by decide +kernel
theorem dX12_goes_270 : decode cX12_goes 270 = .ok (.iload_n 3, 1) := by decide +kernel
theorem dX12_goes_271 : decode cX12_goes 271 = .ok (.iload 4, 2) := by decide +kernel
theorem dX12_goes_273 : decode cX12_goes 273 = .ok (.invokevirtual 181, 3) := by decide +kernel
theorem dX12_goes_276 : decode cX12_goes 276 = .ok (.return_, 1) := by decide +kernel
set_option maxRecDepth 20000 in
theorem ggX12_chooses_J6_bitCount_0f7a4 : GoodIn wsX12_chooses wsJ6_bitCount_0f7a4 := goodIn_r _ [5, 6, 7, 8] (by decide +kernel) (by decide +kernel)
set_option maxRecDepth 20000 in
theorem gX12_chooses_J6_bitCount_0f7a4 : GoodIn wsX12_chooses (va_wsS RX12 135 yJ6_bitCount_0f7a4 wsJ6_bitCount_0f7a4) := goodIn_app (goodIn_of _ (by decide +kernel)) ggX12_chooses_J6_bitCount_0f7a4
set_option maxRecDepth 20000 in
theorem ggX12_chooses_X12_sizeOf : GoodIn wsX12_chooses wsX12_sizeOf := goodIn_ca (goodIn_r _ [13, 14, 15, 16, 101, 102, 103, 104, 105, 106, 107, 108, 109, 110, 111, 112, 113, 114, 115, 116, 117, 118, 119, 120, 121, 122, 123, 124, 125, 126, 127, 128, 129, 130, 131, 132, 133, 134, 135, 136, 137] (by decide +kernel) (by decide +kernel)) (goodIn_sub (fun _ h => List.mem_cons_of_mem _ (List.mem_append_right _ h)) (by decide +kernel))
set_option maxRecDepth 20000 in
theorem gX12_chooses_X12_sizeOf : GoodIn wsX12_chooses (wsV RX12 132 RX12 yX12_sizeOf wsX12_sizeOf) := goodIn_app (goodIn_of _ (by decide +kernel)) ggX12_chooses_X12_sizeOf
set_option maxRecDepth 20000 in
theorem ggX12_chooses_X12_isGood : GoodIn wsX12_chooses wsX12_isGood := goodIn_ca (goodIn_r _ [20, 14, 21, 22, 23, 12, 24, 1, 2, 3, 4, 5, 6, 7, 8, 9, 10, 11, 13, 15, 16, 25, 26, 27, 28, 29, 30, 31, 32, 33, 34, 35, 36, 37, 38, 39, 40, 41, 42, 43, 44, 45, 46, 47, 48, 49, 101, 102, 103, 104, 105, 106, 107, 108, 109, 110, 111, 112, 113, 114, 115, 116, 117, 118, 119, 120, 121, 122, 123, 124, 125, 126, 127, 128, 129, 130, 131, 132, 133, 134, 135, 136, 137] (by decide +kernel) (by decide +kernel)) (goodIn_sub (fun _ h => List.mem_cons_of_mem _ (List.mem_append_right _ h)) (by decide +kernel))
set_option maxRecDepth 20000 in
theorem gX12_chooses_X12_isGood : GoodIn wsX12_chooses (wsV RX12 194 RX12 yX12_isGood wsX12_isGood) := goodIn_app (goodIn_of _ (by decide +kernel)) ggX12_chooses_X12_isGood
set_option maxRecDepth 20000 in
theorem ggX12_chooses_X12_takes : GoodIn wsX12_chooses wsX12_takes := goodIn_ca (goodIn_r _ [100, 75, 81, 1, 62, 59, 67, 69, 65, 36, 37, 38, 12, 39, 40, 41, 42, 43, 14, 15, 44, 45, 46, 47, 48, 49, 30, 89, 90, 91, 0, 2, 3, 4, 5, 6, 7, 8, 9, 10, 11, 13, 16, 17, 18, 19, 20, 21, 22, 23, 24, 25, 26, 27, 28, 29, 31, 32, 33, 34, 35, 50, 51, 52, 53, 54, 55, 56, 57, 58, 60, 61, 63, 64, 66, 68, 70, 71, 72, 73, 74, 76, 77, 78, 79, 80, 82, 83, 84, 85, 86, 87, 88, 92, 93, 94, 95, 96, 97, 98, 99, 101, 102, 103, 104, 105, 106, 107, 108, 109, 110, 111, 112, 113, 114, 115, 116, 117, 118, 119, 120, 121, 122, 123, 124, 125, 126, 127, 128, 129, 130, 131, 132, 133, 134, 135, 136, 137] (by decide +kernel) (by decide +kernel)) (goodIn_sub (fun _ h => List.mem_cons_of_mem _ (List.mem_append_right _ h)) (by decide +kernel))
set_option maxRecDepth 20000 in
theorem gX12_chooses_X12_takes : GoodIn wsX12_chooses (wsV RX12 197 RX12 yX12_takes wsX12_takes) := goodIn_app (goodIn_of _ (by decide +kernel)) ggX12_chooses_X12_takes
set_option maxRecDepth 20000 in
theorem ggX12_chooses_X12_chooses : GoodIn wsX12_chooses wsX12_chooses := goodIn_ca (goodIn_r _ [0, 1, 2, 3, 4, 5, 6, 7, 8, 9, 10, 11, 12, 13, 14, 15, 16, 17, 18, 19, 20, 21, 22, 23, 24, 25, 26, 27, 28, 29, 30, 31, 32, 33, 34, 35, 36, 37, 38, 39, 40, 41, 42, 43, 44, 45, 46, 47, 48, 49, 50, 51, 52, 53, 54, 55, 56, 57, 58, 59, 60, 61, 62, 63, 64, 65, 66, 67, 68, 69, 70, 71, 72, 73, 74, 75, 76, 77, 78, 79, 80, 81, 82, 83, 84, 85, 86, 87, 88, 89, 90, 91, 92, 93, 94, 95, 96, 97, 98, 99, 100, 101, 102, 103, 104, 105, 106, 107, 108, 109, 110, 111, 112, 113, 114, 115, 116, 117, 118, 119, 120, 121, 122, 123, 124, 125, 126, 127, 128, 129, 130, 131, 132, 133, 134, 135, 136, 137] (by decide +kernel) (by decide +kernel)) (goodIn_sub (fun _ h => List.mem_cons_of_mem _ (List.mem_append_right _ h)) (by decide +kernel))
set_option maxRecDepth 20000 in
theorem gX12_chooses_X12_chooses : GoodIn wsX12_chooses (wsV RX12 190 RX12 yX12_chooses wsX12_chooses) := goodIn_app (goodIn_of _ (by decide +kernel)) ggX12_chooses_X12_chooses
theorem dX12_chooses_0 : decode cX12_chooses 0 = .ok (.iload_n 3, 1) := by decide +kernel
theorem dX12_chooses_1 : decode cX12_chooses 1 = .ok (.invokestatic 135, 3) := by decide +kernel
theorem dX12_chooses_4 : decode cX12_chooses 4 = .ok (.aload_n 0, 1) := by decide +kernel
theorem dX12_chooses_5 : decode cX12_chooses 5 = .ok (.iload_n 1, 1) := by decide +kernel
theorem dX12_chooses_6 : decode cX12_chooses 6 = .ok (.invokevirtual 132, 3) := by decide +kernel
theorem dX12_chooses_9 : decode cX12_chooses 9 = .ok (.if_icmp .ne 26, 3) := by decide +kernel
theorem dX12_chooses_12 : decode cX12_chooses 12 = .ok (.aload_n 0, 1) := by decide +kernel
theorem dX12_chooses_13 : decode cX12_chooses 13 = .ok (.iload_n 1, 1) := by decide +kernel
theorem dX12_chooses_14 : decode cX12_chooses 14 = .ok (.iload_n 3, 1) := by decide +kernel
theorem dX12_chooses_15 : decode cX12_chooses 15 = .ok (.invokevirtual 194, 3) := by decide +kernel
theorem dX12_chooses_18 : decode cX12_chooses 18 = .ok (.ifCond .eq 16, 3) := by decide +kernel
theorem dX12_chooses_21 : decode cX12_chooses 21 = .ok (.aload_n 0, 1) := by decide +kernel
theorem dX12_chooses_22 : decode cX12_chooses 22 = .ok (.iload_n 1, 1) := by decide +kernel
theorem dX12_chooses_23 : decode cX12_chooses 23 = .ok (.iload_n 2, 1) := by decide +kernel
theorem dX12_chooses_24 : decode cX12_chooses 24 = .ok (.iload_n 3, 1) := by decide +kernel
theorem dX12_chooses_25 : decode cX12_chooses 25 = .ok (.iload 5, 2) := by decide +kernel
theorem dX12_chooses_27 : decode cX12_chooses 27 = .ok (.iload 6, 2) := by decide +kernel
theorem dX12_chooses_29 : decode cX12_chooses 29 = .ok (.iload 7, 2) := by decide +kernel
theorem dX12_chooses_31 : decode cX12_chooses 31 = .ok (.invokevirtual 197, 3) := by decide +kernel
theorem dX12_chooses_34 : decode cX12_chooses 34 = .ok (.return_, 1) := by decide +kernel
theorem dX12_chooses_35 : decode cX12_chooses 35 = .ok (.iload 4, 2) := by decide +kernel
theorem dX12_chooses_37 : decode cX12_chooses 37 = .ok (.istore 8, 2) := by decide +kernel
theorem dX12_chooses_39 : decode cX12_chooses 39 = .ok (.iload 8, 2) := by decide +kernel
theorem dX12_chooses_41 : decode cX12_chooses 41 = .ok (.aload_n 0, 1) := by decide +kernel
theorem dX12_chooses_42 : decode cX12_chooses 42 = .ok (.getfield 93, 3) := by decide +kernel
theorem dX12_chooses_45 : decode cX12_chooses 45 = .ok (.if_icmp .ge 41, 3) := by decide +kernel
theorem dX12_chooses_48 : decode cX12_chooses 48 = .ok (.iload 5, 2) := by decide +kernel
theorem dX12_chooses_50 : decode cX12_chooses 50 = .ok (.iload 8, 2) := by decide +kernel
theorem dX12_chooses_52 : decode cX12_chooses 52 = .ok (.ishr, 1) := by decide +kernel
theorem dX12_chooses_53 : decode cX12_chooses 53 = .ok (.iconst 1, 1) := by decide +kernel
theorem dX12_chooses_54 : decode cX12_chooses 54 = .ok (.iand, 1) := by decide +kernel
theorem dX12_chooses_55 : decode cX12_chooses 55 = .ok (.ifCond .ne 25, 3) := by decide +kernel
theorem dX12_chooses_58 : decode cX12_chooses 58 = .ok (.aload_n 0, 1) := by decide +kernel
theorem dX12_chooses_59 : decode cX12_chooses 59 = .ok (.iload_n 1, 1) := by decide +kernel
theorem dX12_chooses_60 : decode cX12_chooses 60 = .ok (.iload_n 2, 1) := by decide +kernel
theorem dX12_chooses_61 : decode cX12_chooses 61 = .ok (.iload_n 3, 1) := by decide +kernel
theorem dX12_chooses_62 : decode cX12_chooses 62 = .ok (.iconst 1, 1) := by decide +kernel
theorem dX12_chooses_63 : decode cX12_chooses 63 = .ok (.iload 8, 2) := by decide +kernel
theorem dX12_chooses_65 : decode cX12_chooses 65 = .ok (.ishl, 1) := by decide +kernel
theorem dX12_chooses_66 : decode cX12_chooses 66 = .ok (.ior, 1) := by decide +kernel
theorem dX12_chooses_67 : decode cX12_chooses 67 = .ok (.iload 8, 2) := by decide +kernel
theorem dX12_chooses_69 : decode cX12_chooses 69 = .ok (.iconst 1, 1) := by decide +kernel
