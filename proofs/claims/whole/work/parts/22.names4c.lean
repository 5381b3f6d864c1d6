theorem dX12_chooses_70 : decode cX12_chooses 70 = .ok (.iadd, 1) := by decide +kernel
theorem dX12_chooses_71 : decode cX12_chooses 71 = .ok (.iload 5, 2) := by decide +kernel
theorem dX12_chooses_73 : decode cX12_chooses 73 = .ok (.iload 6, 2) := by decide +kernel
theorem dX12_chooses_75 : decode cX12_chooses 75 = .ok (.iload 7, 2) := by decide +kernel
theorem dX12_chooses_77 : decode cX12_chooses 77 = .ok (.invokevirtual 190, 3) := by decide +kernel
theorem dX12_chooses_80 : decode cX12_chooses 80 = .ok (.iinc 8 1, 3) := by decide +kernel
theorem dX12_chooses_83 : decode cX12_chooses 83 = .ok (.goto (-44), 3) := by decide +kernel
theorem dX12_chooses_86 : decode cX12_chooses 86 = .ok (.return_, 1) := by decide +kernel
set_option maxRecDepth 20000 in
theorem ggX12_takes_X12_discount : GoodIn wsX12_takes wsX12_discount := goodIn_ca (goodIn_r _ [13, 3, 14, 15, 16, 17, 18, 19, 20, 21, 22, 23, 12, 24, 25, 26, 101, 102, 103, 104, 105, 106, 107, 108, 109, 110, 111, 112, 113, 114, 115, 116, 117, 118, 119, 120, 121, 122, 123, 124, 125, 126, 127, 128, 129, 130, 131, 132, 133, 134, 135, 136, 137] (by decide +kernel) (by decide +kernel)) (goodIn_sub (fun _ h => List.mem_cons_of_mem _ (List.mem_append_right _ h)) (by decide +kernel))
set_option maxRecDepth 20000 in
theorem gX12_takes_X12_discount : GoodIn wsX12_takes (wsV RX12 159 RX12 yX12_discount wsX12_discount) := goodIn_app (goodIn_of _ (by decide +kernel)) ggX12_takes_X12_discount
set_option maxRecDepth 20000 in
theorem ggX12_takes_X12_goes : GoodIn wsX12_takes wsX12_goes := goodIn_ca (goodIn_r _ [67, 3, 68, 69, 5, 70, 71, 4, 72, 73, 8, 74, 6, 75, 7, 76, 77, 78, 79, 12, 80, 1, 19, 81, 82, 83, 84, 85, 18, 60, 2, 86, 87, 88, 89, 90, 91, 92, 27, 28, 29, 93, 94, 95, 96, 97, 98, 99, 100, 64, 65, 66, 30, 31, 32, 33, 34, 35, 36, 37, 38, 39, 40, 41, 42, 43, 44, 45, 46, 47, 48, 49, 50, 51, 52, 53, 54, 55, 26, 56, 57, 58, 59, 9, 10, 11, 13, 14, 15, 16, 17, 20, 21, 22, 23, 24, 25, 61, 62, 63, 0, 101, 102, 103, 104, 105, 106, 107, 108, 109, 110, 111, 112, 113, 114, 115, 116, 117, 118, 119, 120, 121, 122, 123, 124, 125, 126, 127, 128, 129, 130, 131, 132, 133, 134, 135, 136, 137] (by decide +kernel) (by decide +kernel)) (goodIn_sub (fun _ h => List.mem_cons_of_mem _ (List.mem_append_right _ h)) (by decide +kernel))
set_option maxRecDepth 20000 in
theorem gX12_takes_X12_goes : GoodIn wsX12_takes (wsV RX12 181 RX12 yX12_goes wsX12_goes) := goodIn_app (goodIn_of _ (by decide +kernel)) ggX12_takes_X12_goes
theorem dX12_takes_0 : decode cX12_takes 0 = .ok (.aload_n 0, 1) := by decide +kernel
theorem dX12_takes_1 : decode cX12_takes 1 = .ok (.iload_n 1, 1) := by decide +kernel
theorem dX12_takes_2 : decode cX12_takes 2 = .ok (.iload_n 3, 1) := by decide +kernel
theorem dX12_takes_3 : decode cX12_takes 3 = .ok (.invokevirtual 159, 3) := by decide +kernel
theorem dX12_takes_6 : decode cX12_takes 6 = .ok (.istore 7, 2) := by decide +kernel
theorem dX12_takes_8 : decode cX12_takes 8 = .ok (.aload_n 0, 1) := by decide +kernel
theorem dX12_takes_9 : decode cX12_takes 9 = .ok (.getfield 44, 3) := by decide +kernel
theorem dX12_takes_12 : decode cX12_takes 12 = .ok (.iload_n 1, 1) := by decide +kernel
theorem dX12_takes_13 : decode cX12_takes 13 = .ok (.iaload, 1) := by decide +kernel
theorem dX12_takes_14 : decode cX12_takes 14 = .ok (.iconst (-1), 1) := by decide +kernel
theorem dX12_takes_15 : decode cX12_takes 15 = .ok (.if_icmp .ne 7, 3) := by decide +kernel
theorem dX12_takes_18 : decode cX12_takes 18 = .ok (.iconst (-1), 1) := by decide +kernel
theorem dX12_takes_19 : decode cX12_takes 19 = .ok (.goto 14, 3) := by decide +kernel
theorem dX12_takes_22 : decode cX12_takes 22 = .ok (.aload_n 0, 1) := by decide +kernel
theorem dX12_takes_23 : decode cX12_takes 23 = .ok (.getfield 61, 3) := by decide +kernel
theorem dX12_takes_26 : decode cX12_takes 26 = .ok (.aload_n 0, 1) := by decide +kernel
theorem dX12_takes_27 : decode cX12_takes 27 = .ok (.getfield 44, 3) := by decide +kernel
theorem dX12_takes_30 : decode cX12_takes 30 = .ok (.iload_n 1, 1) := by decide +kernel
theorem dX12_takes_31 : decode cX12_takes 31 = .ok (.iaload, 1) := by decide +kernel
theorem dX12_takes_32 : decode cX12_takes 32 = .ok (.iaload, 1) := by decide +kernel
theorem dX12_takes_33 : decode cX12_takes 33 = .ok (.istore 8, 2) := by decide +kernel
theorem dX12_takes_35 : decode cX12_takes 35 = .ok (.iconst 0, 1) := by decide +kernel
theorem dX12_takes_36 : decode cX12_takes 36 = .ok (.istore 9, 2) := by decide +kernel
theorem dX12_takes_38 : decode cX12_takes 38 = .ok (.iload 9, 2) := by decide +kernel
theorem dX12_takes_40 : decode cX12_takes 40 = .ok (.aload_n 0, 1) := by decide +kernel
theorem dX12_takes_41 : decode cX12_takes 41 = .ok (.getfield 93, 3) := by decide +kernel
theorem dX12_takes_44 : decode cX12_takes 44 = .ok (.if_icmp .ge 40, 3) := by decide +kernel
theorem dX12_takes_47 : decode cX12_takes 47 = .ok (.aload_n 0, 1) := by decide +kernel
theorem dX12_takes_48 : decode cX12_takes 48 = .ok (.getfield 55, 3) := by decide +kernel
theorem dX12_takes_51 : decode cX12_takes 51 = .ok (.iload 9, 2) := by decide +kernel
theorem dX12_takes_53 : decode cX12_takes 53 = .ok (.iload_n 3, 1) := by decide +kernel
theorem dX12_takes_54 : decode cX12_takes 54 = .ok (.iload 9, 2) := by decide +kernel
theorem dX12_takes_56 : decode cX12_takes 56 = .ok (.ishr, 1) := by decide +kernel
theorem dX12_takes_57 : decode cX12_takes 57 = .ok (.iconst 1, 1) := by decide +kernel
theorem dX12_takes_58 : decode cX12_takes 58 = .ok (.iand, 1) := by decide +kernel
theorem dX12_takes_59 : decode cX12_takes 59 = .ok (.iconst 1, 1) := by decide +kernel
theorem dX12_takes_60 : decode cX12_takes 60 = .ok (.if_icmp .ne 10, 3) := by decide +kernel
theorem dX12_takes_63 : decode cX12_takes 63 = .ok (.aload_n 0, 1) := by decide +kernel
theorem dX12_takes_64 : decode cX12_takes 64 = .ok (.getfield 175, 3) := by decide +kernel
theorem dX12_takes_67 : decode cX12_takes 67 = .ok (.goto 10, 3) := by decide +kernel
theorem dX12_takes_70 : decode cX12_takes 70 = .ok (.aload_n 0, 1) := by decide +kernel
theorem dX12_takes_71 : decode cX12_takes 71 = .ok (.getfield 55, 3) := by decide +kernel
theorem dX12_takes_74 : decode cX12_takes 74 = .ok (.iload 9, 2) := by decide +kernel
theorem dX12_takes_76 : decode cX12_takes 76 = .ok (.iaload, 1) := by decide +kernel
theorem dX12_takes_77 : decode cX12_takes 77 = .ok (.iastore, 1) := by decide +kernel
theorem dX12_takes_78 : decode cX12_takes 78 = .ok (.iinc 9 1, 3) := by decide +kernel
theorem dX12_takes_81 : decode cX12_takes 81 = .ok (.goto (-43), 3) := by decide +kernel
theorem dX12_takes_84 : decode cX12_takes 84 = .ok (.aload_n 0, 1) := by decide +kernel
theorem dX12_takes_85 : decode cX12_takes 85 = .ok (.getfield 64, 3) := by decide +kernel
theorem dX12_takes_88 : decode cX12_takes 88 = .ok (.aload_n 0, 1) := by decide +kernel
theorem dX12_takes_89 : decode cX12_takes 89 = .ok (.getfield 175, 3) := by decide +kernel
theorem dX12_takes_92 : decode cX12_takes 92 = .ok (.iload_n 1, 1) := by decide +kernel
theorem dX12_takes_93 : decode cX12_takes 93 = .ok (.iastore, 1) := by decide +kernel
theorem dX12_takes_94 : decode cX12_takes 94 = .ok (.aload_n 0, 1) := by decide +kernel
theorem dX12_takes_95 : decode cX12_takes 95 = .ok (.getfield 67, 3) := by decide +kernel
theorem dX12_takes_98 : decode cX12_takes 98 = .ok (.aload_n 0, 1) := by decide +kernel
theorem dX12_takes_99 : decode cX12_takes 99 = .ok (.getfield 175, 3) := by decide +kernel
theorem dX12_takes_102 : decode cX12_takes 102 = .ok (.iload 7, 2) := by decide +kernel
theorem dX12_takes_104 : decode cX12_takes 104 = .ok (.iastore, 1) := by decide +kernel
theorem dX12_takes_105 : decode cX12_takes 105 = .ok (.aload_n 0, 1) := by decide +kernel
theorem dX12_takes_106 : decode cX12_takes 106 = .ok (.dup, 1) := by decide +kernel
theorem dX12_takes_107 : decode cX12_takes 107 = .ok (.getfield 175, 3) := by decide +kernel
theorem dX12_takes_110 : decode cX12_takes 110 = .ok (.iconst 1, 1) := by decide +kernel
theorem dX12_takes_111 : decode cX12_takes 111 = .ok (.iadd, 1) := by decide +kernel
theorem dX12_takes_112 : decode cX12_takes 112 = .ok (.putfield 175, 3) := by decide +kernel
theorem dX12_takes_115 : decode cX12_takes 115 = .ok (.aload_n 0, 1) := by decide +kernel
theorem dX12_takes_116 : decode cX12_takes 116 = .ok (.getfield 58, 3) := by decide +kernel
theorem dX12_takes_119 : decode cX12_takes 119 = .ok (.iload_n 1, 1) := by decide +kernel
theorem dX12_takes_120 : decode cX12_takes 120 = .ok (.dup2, 1) := by decide +kernel
theorem dX12_takes_121 : decode cX12_takes 121 = .ok (.iaload, 1) := by decide +kernel
theorem dX12_takes_122 : decode cX12_takes 122 = .ok (.iconst 1, 1) := by decide +kernel
theorem dX12_takes_123 : decode cX12_takes 123 = .ok (.iadd, 1) := by decide +kernel
theorem dX12_takes_124 : decode cX12_takes 124 = .ok (.iastore, 1) := by decide +kernel
theorem dX12_takes_125 : decode cX12_takes 125 = .ok (.aload_n 0, 1) := by decide +kernel
theorem dX12_takes_126 : decode cX12_takes 126 = .ok (.getfield 44, 3) := by decide +kernel
theorem dX12_takes_129 : decode cX12_takes 129 = .ok (.iload_n 1, 1) := by decide +kernel
theorem dX12_takes_130 : decode cX12_takes 130 = .ok (.iaload, 1) := by decide +kernel
theorem dX12_takes_131 : decode cX12_takes 131 = .ok (.iconst (-1), 1) := by decide +kernel
theorem dX12_takes_132 : decode cX12_takes 132 = .ok (.if_icmp .eq 15, 3) := by decide +kernel
theorem dX12_takes_135 : decode cX12_takes 135 = .ok (.aload_n 0, 1) := by decide +kernel
theorem dX12_takes_136 : decode cX12_takes 136 = .ok (.getfield 61, 3) := by decide +kernel
theorem dX12_takes_139 : decode cX12_takes 139 = .ok (.aload_n 0, 1) := by decide +kernel
theorem dX12_takes_140 : decode cX12_takes 140 = .ok (.getfield 44, 3) := by decide +kernel
theorem dX12_takes_143 : decode cX12_takes 143 = .ok (.iload_n 1, 1) := by decide +kernel
theorem dX12_takes_144 : decode cX12_takes 144 = .ok (.iaload, 1) := by decide +kernel
theorem dX12_takes_145 : decode cX12_takes 145 = .ok (.iload_n 1, 1) := by decide +kernel
theorem dX12_takes_146 : decode cX12_takes 146 = .ok (.iastore, 1) := by decide +kernel
theorem dX12_takes_147 : decode cX12_takes 147 = .ok (.aload_n 0, 1) := by decide +kernel
theorem dX12_takes_148 : decode cX12_takes 148 = .ok (.iload_n 2, 1) := by decide +kernel
theorem dX12_takes_149 : decode cX12_takes 149 = .ok (.iconst 1, 1) := by decide +kernel
theorem dX12_takes_150 : decode cX12_takes 150 = .ok (.iadd, 1) := by decide +kernel
theorem dX12_takes_151 : decode cX12_takes 151 = .ok (.iload 4, 2) := by decide +kernel
theorem dX12_takes_153 : decode cX12_takes 153 = .ok (.iload_n 3, 1) := by decide +kernel
theorem dX12_takes_154 : decode cX12_takes 154 = .ok (.ior, 1) := by decide +kernel
theorem dX12_takes_155 : decode cX12_takes 155 = .ok (.iload 5, 2) := by decide +kernel
theorem dX12_takes_157 : decode cX12_takes 157 = .ok (.iload 7, 2) := by decide +kernel
theorem dX12_takes_159 : decode cX12_takes 159 = .ok (.iadd, 1) := by decide +kernel
theorem dX12_takes_160 : decode cX12_takes 160 = .ok (.iload 6, 2) := by decide +kernel
theorem dX12_takes_162 : decode cX12_takes 162 = .ok (.invokevirtual 181, 3) := by decide +kernel
theorem dX12_takes_165 : decode cX12_takes 165 = .ok (.aload_n 0, 1) := by decide +kernel
theorem dX12_takes_166 : decode cX12_takes 166 = .ok (.dup, 1) := by decide +kernel
theorem dX12_takes_167 : decode cX12_takes 167 = .ok (.getfield 175, 3) := by decide +kernel
theorem dX12_takes_170 : decode cX12_takes 170 = .ok (.iconst 1, 1) := by decide +kernel
theorem dX12_takes_171 : decode cX12_takes 171 = .ok (.isub, 1) := by decide +kernel
theorem dX12_takes_172 : decode cX12_takes 172 = .ok (.putfield 175, 3) := by decide +kernel
theorem dX12_takes_175 : decode cX12_takes 175 = .ok (.aload_n 0, 1) := by decide +kernel
theorem dX12_takes_176 : decode cX12_takes 176 = .ok (.getfield 58, 3) := by decide +kernel
theorem dX12_takes_179 : decode cX12_takes 179 = .ok (.iload_n 1, 1) := by decide +kernel
theorem dX12_takes_180 : decode cX12_takes 180 = .ok (.dup2, 1) := by decide +kernel
theorem dX12_takes_181 : decode cX12_takes 181 = .ok (.iaload, 1) := by decide +kernel
theorem dX12_takes_182 : decode cX12_takes 182 = .ok (.iconst 1, 1) := by decide +kernel
theorem dX12_takes_183 : decode cX12_takes 183 = .ok (.isub, 1) := by decide +kernel
theorem dX12_takes_184 : decode cX12_takes 184 = .ok (.iastore, 1) := by decide +kernel
theorem dX12_takes_185 : decode cX12_takes 185 = .ok (.aload_n 0, 1) := by decide +kernel
theorem dX12_takes_186 : decode cX12_takes 186 = .ok (.getfield 44, 3) := by decide +kernel
theorem dX12_takes_189 : decode cX12_takes 189 = .ok (.iload_n 1, 1) := by decide +kernel
theorem dX12_takes_190 : decode cX12_takes 190 = .ok (.iaload, 1) := by decide +kernel
theorem dX12_takes_191 : decode cX12_takes 191 = .ok (.iconst (-1), 1) := by decide +kernel
theorem dX12_takes_192 : decode cX12_takes 192 = .ok (.if_icmp .eq 16, 3) := by decide +kernel
theorem dX12_takes_195 : decode cX12_takes 195 = .ok (.aload_n 0, 1) := by decide +kernel
theorem dX12_takes_196 : decode cX12_takes 196 = .ok (.getfield 61, 3) := by decide +kernel
theorem dX12_takes_199 : decode cX12_takes 199 = .ok (.aload_n 0, 1) := by decide +kernel
theorem dX12_takes_200 : decode cX12_takes 200 = .ok (.getfield 44, 3) := by decide +kernel
theorem dX12_takes_203 : decode cX12_takes 203 = .ok (.iload_n 1, 1) := by decide +kernel
theorem dX12_takes_204 : decode cX12_takes 204 = .ok (.iaload, 1) := by decide +kernel
theorem dX12_takes_205 : decode cX12_takes 205 = .ok (.iload 8, 2) := by decide +kernel
theorem dX12_takes_207 : decode cX12_takes 207 = .ok (.iastore, 1) := by decide +kernel
theorem dX12_takes_208 : decode cX12_takes 208 = .ok (.return_, 1) := by decide +kernel
set_option maxRecDepth 20000 in
theorem ggX12_hope_X12_leftOf : GoodIn wsX12_hope wsX12_leftOf := goodIn_ca (goodIn_r _ [13, 14, 15, 16, 62, 63, 64, 65, 66, 67, 68, 69, 70, 71, 72, 73, 74, 75, 76, 77, 78, 79, 80, 81, 82, 83, 84, 85, 86, 87, 88, 89, 90, 91, 92, 93, 94, 95, 96, 97, 98] (by decide +kernel) (by decide +kernel)) (goodIn_sub (fun _ h => List.mem_cons_of_mem _ (List.mem_append_right _ h)) (by decide +kernel))
set_option maxRecDepth 20000 in
theorem gX12_hope_X12_leftOf : GoodIn wsX12_hope (wsV RX12 128 RX12 yX12_leftOf wsX12_leftOf) := goodIn_app (goodIn_of _ (by decide +kernel)) ggX12_hope_X12_leftOf
set_option maxRecDepth 20000 in
theorem ggX12_hope_X12_isGood : GoodIn wsX12_hope wsX12_isGood := goodIn_ca (goodIn_r _ [20, 4, 21, 22, 23, 12, 24, 2, 25, 26, 27, 28, 29, 30, 31, 32, 33, 34, 35, 36, 37, 38, 39, 40, 41, 42, 43, 44, 45, 46, 47, 48, 49, 50, 51, 52, 53, 54, 7, 55, 56, 57, 58, 59, 60, 61, 62, 63, 64, 65, 66, 67, 68, 69, 70, 71, 72, 73, 74, 75, 76, 77, 78, 79, 80, 81, 82, 83, 84, 85, 86, 87, 88, 89, 90, 91, 92, 93, 94, 95, 96, 97, 98] (by decide +kernel) (by decide +kernel)) (goodIn_sub (fun _ h => List.mem_cons_of_mem _ (List.mem_append_right _ h)) (by decide +kernel))
set_option maxRecDepth 20000 in
theorem gX12_hope_X12_isGood : GoodIn wsX12_hope (wsV RX12 194 RX12 yX12_isGood wsX12_isGood) := goodIn_app (goodIn_of _ (by decide +kernel)) ggX12_hope_X12_isGood
set_option maxRecDepth 20000 in
theorem ggX12_hope_X12_discount : GoodIn wsX12_hope wsX12_discount := goodIn_ca (goodIn_r _ [52, 2, 53, 54, 7, 55, 4, 36, 56, 57, 58, 59, 12, 60, 61, 43, 62, 63, 64, 65, 66, 67, 68, 69, 70, 71, 72, 73, 74, 75, 76, 77, 78, 79, 80, 81, 82, 83, 84, 85, 86, 87, 88, 89, 90, 91, 92, 93, 94, 95, 96, 97, 98] (by decide +kernel) (by decide +kernel)) (goodIn_sub (fun _ h => List.mem_cons_of_mem _ (List.mem_append_right _ h)) (by decide +kernel))
set_option maxRecDepth 20000 in
theorem gX12_hope_X12_discount : GoodIn wsX12_hope (wsV RX12 159 RX12 yX12_discount wsX12_discount) := goodIn_app (goodIn_of _ (by decide +kernel)) ggX12_hope_X12_discount
theorem dX12_hope_0 : decode cX12_hope 0 = .ok (.aload_n 0, 1) := by decide +kernel
theorem dX12_hope_1 : decode cX12_hope 1 = .ok (.getfield 70, 3) := by decide +kernel
theorem dX12_hope_4 : decode cX12_hope 4 = .ok (.aload_n 0, 1) := by decide +kernel
theorem dX12_hope_5 : decode cX12_hope 5 = .ok (.getfield 93, 3) := by decide +kernel
theorem dX12_hope_8 : decode cX12_hope 8 = .ok (.iconst 0, 1) := by decide +kernel
theorem dX12_hope_9 : decode cX12_hope 9 = .ok (.iastore, 1) := by decide +kernel
theorem dX12_hope_10 : decode cX12_hope 10 = .ok (.aload_n 0, 1) := by decide +kernel
theorem dX12_hope_11 : decode cX12_hope 11 = .ok (.getfield 93, 3) := by decide +kernel
theorem dX12_hope_14 : decode cX12_hope 14 = .ok (.iconst 1, 1) := by decide +kernel
theorem dX12_hope_15 : decode cX12_hope 15 = .ok (.isub, 1) := by decide +kernel
theorem dX12_hope_16 : decode cX12_hope 16 = .ok (.istore_n 1, 1) := by decide +kernel
theorem dX12_hope_17 : decode cX12_hope 17 = .ok (.iload_n 1, 1) := by decide +kernel
theorem dX12_hope_18 : decode cX12_hope 18 = .ok (.ifCond .lt 127, 3) := by decide +kernel
theorem dX12_hope_21 : decode cX12_hope 21 = .ok (.iconst 0, 1) := by decide +kernel
theorem dX12_hope_22 : decode cX12_hope 22 = .ok (.istore_n 2, 1) := by decide +kernel
theorem dX12_hope_23 : decode cX12_hope 23 = .ok (.iconst 0, 1) := by decide +kernel
theorem dX12_hope_24 : decode cX12_hope 24 = .ok (.istore_n 3, 1) := by decide +kernel
theorem dX12_hope_25 : decode cX12_hope 25 = .ok (.iload_n 3, 1) := by decide +kernel
theorem dX12_hope_26 : decode cX12_hope 26 = .ok (.iconst 1, 1) := by decide +kernel
theorem dX12_hope_27 : decode cX12_hope 27 = .ok (.aload_n 0, 1) := by decide +kernel
theorem dX12_hope_28 : decode cX12_hope 28 = .ok (.getfield 93, 3) := by decide +kernel
theorem dX12_hope_31 : decode cX12_hope 31 = .ok (.iload_n 1, 1) := by decide +kernel
theorem dX12_hope_32 : decode cX12_hope 32 = .ok (.isub, 1) := by decide +kernel
theorem dX12_hope_33 : decode cX12_hope 33 = .ok (.iconst 1, 1) := by decide +kernel
theorem dX12_hope_34 : decode cX12_hope 34 = .ok (.isub, 1) := by decide +kernel
theorem dX12_hope_35 : decode cX12_hope 35 = .ok (.ishl, 1) := by decide +kernel
theorem dX12_hope_36 : decode cX12_hope 36 = .ok (.if_icmp .ge 87, 3) := by decide +kernel
theorem dX12_hope_39 : decode cX12_hope 39 = .ok (.iconst 1, 1) := by decide +kernel
theorem dX12_hope_40 : decode cX12_hope 40 = .ok (.iload_n 1, 1) := by decide +kernel
theorem dX12_hope_41 : decode cX12_hope 41 = .ok (.ishl, 1) := by decide +kernel
theorem dX12_hope_42 : decode cX12_hope 42 = .ok (.iload_n 3, 1) := by decide +kernel
theorem dX12_hope_43 : decode cX12_hope 43 = .ok (.iload_n 1, 1) := by decide +kernel
theorem dX12_hope_44 : decode cX12_hope 44 = .ok (.iconst 1, 1) := by decide +kernel
theorem dX12_hope_45 : decode cX12_hope 45 = .ok (.iadd, 1) := by decide +kernel
theorem dX12_hope_46 : decode cX12_hope 46 = .ok (.ishl, 1) := by decide +kernel
theorem dX12_hope_47 : decode cX12_hope 47 = .ok (.ior, 1) := by decide +kernel
theorem dX12_hope_48 : decode cX12_hope 48 = .ok (.istore 4, 2) := by decide +kernel
theorem dX12_hope_50 : decode cX12_hope 50 = .ok (.iconst 0, 1) := by decide +kernel
theorem dX12_hope_51 : decode cX12_hope 51 = .ok (.istore 5, 2) := by decide +kernel
theorem dX12_hope_53 : decode cX12_hope 53 = .ok (.iload 5, 2) := by decide +kernel
theorem dX12_hope_55 : decode cX12_hope 55 = .ok (.aload_n 0, 1) := by decide +kernel
theorem dX12_hope_56 : decode cX12_hope 56 = .ok (.getfield 121, 3) := by decide +kernel
theorem dX12_hope_59 : decode cX12_hope 59 = .ok (.if_icmp .ge 58, 3) := by decide +kernel
theorem dX12_hope_62 : decode cX12_hope 62 = .ok (.aload_n 0, 1) := by decide +kernel
theorem dX12_hope_63 : decode cX12_hope 63 = .ok (.getfield 26, 3) := by decide +kernel
theorem dX12_hope_66 : decode cX12_hope 66 = .ok (.iload 5, 2) := by decide +kernel
theorem dX12_hope_68 : decode cX12_hope 68 = .ok (.caload, 1) := by decide +kernel
theorem dX12_hope_69 : decode cX12_hope 69 = .ok (.bipush 116, 2) := by decide +kernel
theorem dX12_hope_71 : decode cX12_hope 71 = .ok (.if_icmp .eq 38, 3) := by decide +kernel
theorem dX12_hope_74 : decode cX12_hope 74 = .ok (.aload_n 0, 1) := by decide +kernel
theorem dX12_hope_75 : decode cX12_hope 75 = .ok (.iload 5, 2) := by decide +kernel
theorem dX12_hope_77 : decode cX12_hope 77 = .ok (.invokevirtual 128, 3) := by decide +kernel
theorem dX12_hope_80 : decode cX12_hope 80 = .ok (.ifCond .le 29, 3) := by decide +kernel
theorem dX12_hope_83 : decode cX12_hope 83 = .ok (.aload_n 0, 1) := by decide +kernel
theorem dX12_hope_84 : decode cX12_hope 84 = .ok (.iload 5, 2) := by decide +kernel
theorem dX12_hope_86 : decode cX12_hope 86 = .ok (.iload 4, 2) := by decide +kernel
theorem dX12_hope_88 : decode cX12_hope 88 = .ok (.invokevirtual 194, 3) := by decide +kernel
theorem dX12_hope_91 : decode cX12_hope 91 = .ok (.ifCond .eq 18, 3) := by decide +kernel
theorem dX12_hope_94 : decode cX12_hope 94 = .ok (.iload_n 2, 1) := by decide +kernel
theorem dX12_hope_95 : decode cX12_hope 95 = .ok (.aload_n 0, 1) := by decide +kernel
theorem dX12_hope_96 : decode cX12_hope 96 = .ok (.iload 5, 2) := by decide +kernel
theorem dX12_hope_98 : decode cX12_hope 98 = .ok (.iload 4, 2) := by decide +kernel
theorem dX12_hope_100 : decode cX12_hope 100 = .ok (.invokevirtual 159, 3) := by decide +kernel
theorem dX12_hope_103 : decode cX12_hope 103 = .ok (.invokestatic 201, 3) := by decide +kernel
theorem dX12_hope_106 : decode cX12_hope 106 = .ok (.goto 4, 3) := by decide +kernel
theorem dX12_hope_109 : decode cX12_hope 109 = .ok (.iload_n 2, 1) := by decide +kernel
theorem dX12_hope_110 : decode cX12_hope 110 = .ok (.istore_n 2, 1) := by decide +kernel
theorem dX12_hope_111 : decode cX12_hope 111 = .ok (.iinc 5 1, 3) := by decide +kernel
theorem dX12_hope_114 : decode cX12_hope 114 = .ok (.goto (-61), 3) := by decide +kernel
theorem dX12_hope_117 : decode cX12_hope 117 = .ok (.iinc 3 1, 3) := by decide +kernel
theorem dX12_hope_120 : decode cX12_hope 120 = .ok (.goto (-95), 3) := by decide +kernel
theorem dX12_hope_123 : decode cX12_hope 123 = .ok (.aload_n 0, 1) := by decide +kernel
theorem dX12_hope_124 : decode cX12_hope 124 = .ok (.getfield 70, 3) := by decide +kernel
theorem dX12_hope_127 : decode cX12_hope 127 = .ok (.iload_n 1, 1) := by decide +kernel
theorem dX12_hope_128 : decode cX12_hope 128 = .ok (.aload_n 0, 1) := by decide +kernel
theorem dX12_hope_129 : decode cX12_hope 129 = .ok (.getfield 70, 3) := by decide +kernel
theorem dX12_hope_132 : decode cX12_hope 132 = .ok (.iload_n 1, 1) := by decide +kernel
theorem dX12_hope_133 : decode cX12_hope 133 = .ok (.iconst 1, 1) := by decide +kernel
theorem dX12_hope_134 : decode cX12_hope 134 = .ok (.iadd, 1) := by decide +kernel
theorem dX12_hope_135 : decode cX12_hope 135 = .ok (.iaload, 1) := by decide +kernel
theorem dX12_hope_136 : decode cX12_hope 136 = .ok (.iload_n 2, 1) := by decide +kernel
theorem dX12_hope_137 : decode cX12_hope 137 = .ok (.iadd, 1) := by decide +kernel
theorem dX12_hope_138 : decode cX12_hope 138 = .ok (.iastore, 1) := by decide +kernel
theorem dX12_hope_139 : decode cX12_hope 139 = .ok (.iinc 1 (-1), 3) := by decide +kernel
theorem dX12_hope_142 : decode cX12_hope 142 = .ok (.goto (-125), 3) := by decide +kernel
theorem dX12_hope_145 : decode cX12_hope 145 = .ok (.return_, 1) := by decide +kernel
set_option maxRecDepth 20000 in
theorem ggX12_finds_X12_sumNow : GoodIn wsX12_finds wsX12_sumNow := goodIn_ca (goodIn_r _ [11, 12, 13, 14, 15, 16, 17, 10, 18, 19, 20, 125, 126, 127, 128, 129, 130, 131, 132, 133, 134, 135, 136, 137, 138, 139, 140, 141, 142, 143, 144, 145, 146, 147, 148, 149, 150, 151, 152, 153, 154, 155, 156, 157, 158, 159, 160, 161] (by decide +kernel) (by decide +kernel)) (goodIn_sub (fun _ h => List.mem_cons_of_mem _ (List.mem_append_left _ (List.mem_append_right _ h))) (by decide +kernel))
set_option maxRecDepth 20000 in
theorem gX12_finds_X12_sumNow : GoodIn wsX12_finds (wsV RX12 117 RX12 yX12_sumNow wsX12_sumNow) := goodIn_app (goodIn_of _ (by decide +kernel)) ggX12_finds_X12_sumNow
set_option maxRecDepth 20000 in
theorem ggX12_finds_X12_hope : GoodIn wsX12_finds wsX12_hope := goodIn_ca (goodIn_r _ [24, 25, 12, 2, 26, 27, 28, 29, 30, 31, 32, 33, 10, 34, 35, 36, 37, 38, 39, 40, 41, 42, 43, 44, 45, 46, 47, 48, 49, 50, 51, 52, 53, 54, 55, 56, 57, 58, 59, 60, 61, 62, 63, 14, 64, 65, 66, 67, 68, 69, 70, 71, 72, 73, 74, 75, 76, 77, 78, 79, 80, 13, 125, 126, 127, 128, 129, 130, 131, 132, 133, 134, 135, 136, 137, 138, 139, 140, 141, 142, 143, 144, 145, 146, 147, 148, 149, 150, 151, 152, 153, 154, 155, 156, 157, 158, 159, 160, 161] (by decide +kernel) (by decide +kernel)) (goodIn_sub (fun _ h => List.mem_cons_of_mem _ (List.mem_append_left _ (List.mem_append_right _ h))) (by decide +kernel))
set_option maxRecDepth 20000 in
theorem gX12_finds_X12_hope : GoodIn wsX12_finds (wsV RX12 204 RX12 yX12_hope wsX12_hope) := goodIn_app (goodIn_of _ (by decide +kernel)) ggX12_finds_X12_hope
set_option maxRecDepth 20000 in
theorem ggX12_finds_X12_goes : GoodIn wsX12_finds wsX12_goes := goodIn_ca (goodIn_r _ [84, 12, 6, 85, 5, 86, 87, 88, 2, 89, 3, 90, 91, 92, 93, 25, 94, 95, 96, 10, 97, 98, 57, 99, 100, 101, 102, 103, 26, 68, 4, 31, 32, 33, 34, 35, 36, 37, 81, 82, 83, 104, 105, 106, 107, 108, 109, 110, 111, 112, 113, 114, 115, 46, 47, 48, 49, 50, 51, 52, 53, 54, 55, 56, 58, 38, 39, 40, 41, 42, 43, 44, 45, 59, 60, 61, 62, 63, 14, 64, 65, 66, 67, 69, 70, 71, 72, 73, 74, 29, 75, 76, 77, 78, 79, 80, 13, 116, 117, 118, 119, 125, 126, 127, 128, 129, 130, 131, 132, 133, 134, 135, 136, 137, 138, 139, 140, 141, 142, 143, 144, 145, 146, 147, 148, 149, 150, 151, 152, 153, 154, 155, 156, 157, 158, 159, 160, 161] (by decide +kernel) (by decide +kernel)) (goodIn_sub (fun _ h => List.mem_cons_of_mem _ (List.mem_append_left _ (List.mem_append_right _ h))) (by decide +kernel))
set_option maxRecDepth 20000 in
theorem gX12_finds_X12_goes : GoodIn wsX12_finds (wsV RX12 181 RX12 yX12_goes wsX12_goes) := goodIn_app (goodIn_of _ (by decide +kernel)) ggX12_finds_X12_goes
set_option maxRecDepth 20000 in
theorem ggX12_finds_X12_spreads : GoodIn wsX12_finds wsX12_spreads := goodIn_ca (goodIn_ca (goodIn_r _ [123, 12, 124, 14, 86, 87, 92, 6, 85, 73, 74, 29, 75, 88, 77, 78, 79, 10, 80, 13, 125, 126, 127, 128, 129, 130, 131, 132, 133, 134, 135, 136, 137, 138, 139, 140, 141, 142, 143, 144, 145, 146, 147, 148, 149, 150, 151, 152, 153, 154, 155, 156, 157, 158, 159, 160, 161] (by decide +kernel) (by decide +kernel)) (goodIn_sub (fun _ h => List.mem_cons_of_mem _ (List.mem_append_left _ (List.mem_append_right _ h))) (by decide +kernel))) (goodIn_sub (fun _ h => List.mem_cons_of_mem _ (List.mem_append_right _ h)) (by decide +kernel))
set_option maxRecDepth 20000 in
theorem gX12_finds_X12_spreads : GoodIn wsX12_finds (wsV RX12 207 RX12 yX12_spreads wsX12_spreads) := goodIn_app (goodIn_of _ (by decide +kernel)) ggX12_finds_X12_spreads
theorem dX12_finds_0 : decode cX12_finds 0 = .ok (.aload_n 0, 1) := by decide +kernel
theorem dX12_finds_1 : decode cX12_finds 1 = .ok (.getfield 106, 3) := by decide +kernel
theorem dX12_finds_4 : decode cX12_finds 4 = .ok (.ifCond .eq 4, 3) := by decide +kernel
theorem dX12_finds_7 : decode cX12_finds 7 = .ok (.return_, 1) := by decide +kernel
theorem dX12_finds_8 : decode cX12_finds 8 = .ok (.aload_n 0, 1) := by decide +kernel
theorem dX12_finds_9 : decode cX12_finds 9 = .ok (.invokevirtual 117, 3) := by decide +kernel
theorem dX12_finds_12 : decode cX12_finds 12 = .ok (.istore_n 1, 1) := by decide +kernel
theorem dX12_finds_13 : decode cX12_finds 13 = .ok (.iconst 0, 1) := by decide +kernel
theorem dX12_finds_14 : decode cX12_finds 14 = .ok (.istore_n 2, 1) := by decide +kernel
theorem dX12_finds_15 : decode cX12_finds 15 = .ok (.iload_n 2, 1) := by decide +kernel
theorem dX12_finds_16 : decode cX12_finds 16 = .ok (.aload_n 0, 1) := by decide +kernel
theorem dX12_finds_17 : decode cX12_finds 17 = .ok (.getfield 121, 3) := by decide +kernel
theorem dX12_finds_20 : decode cX12_finds 20 = .ok (.if_icmp .ge 16, 3) := by decide +kernel
theorem dX12_finds_23 : decode cX12_finds 23 = .ok (.aload_n 0, 1) := by decide +kernel
theorem dX12_finds_24 : decode cX12_finds 24 = .ok (.getfield 58, 3) := by decide +kernel
theorem dX12_finds_27 : decode cX12_finds 27 = .ok (.iload_n 2, 1) := by decide +kernel
theorem dX12_finds_28 : decode cX12_finds 28 = .ok (.iconst 0, 1) := by decide +kernel
theorem dX12_finds_29 : decode cX12_finds 29 = .ok (.iastore, 1) := by decide +kernel
theorem dX12_finds_30 : decode cX12_finds 30 = .ok (.iinc 2 1, 3) := by decide +kernel
theorem dX12_finds_33 : decode cX12_finds 33 = .ok (.goto (-18), 3) := by decide +kernel
theorem dX12_finds_36 : decode cX12_finds 36 = .ok (.iconst 0, 1) := by decide +kernel
theorem dX12_finds_37 : decode cX12_finds 37 = .ok (.istore_n 2, 1) := by decide +kernel
theorem dX12_finds_38 : decode cX12_finds 38 = .ok (.iload_n 2, 1) := by decide +kernel
theorem dX12_finds_39 : decode cX12_finds 39 = .ok (.iconst 4, 1) := by decide +kernel
theorem dX12_finds_40 : decode cX12_finds 40 = .ok (.if_icmp .ge 16, 3) := by decide +kernel
theorem dX12_finds_43 : decode cX12_finds 43 = .ok (.aload_n 0, 1) := by decide +kernel
theorem dX12_finds_44 : decode cX12_finds 44 = .ok (.getfield 61, 3) := by decide +kernel
theorem dX12_finds_47 : decode cX12_finds 47 = .ok (.iload_n 2, 1) := by decide +kernel
theorem dX12_finds_48 : decode cX12_finds 48 = .ok (.iconst (-1), 1) := by decide +kernel
theorem dX12_finds_49 : decode cX12_finds 49 = .ok (.iastore, 1) := by decide +kernel
theorem dX12_finds_50 : decode cX12_finds 50 = .ok (.iinc 2 1, 3) := by decide +kernel
theorem dX12_finds_53 : decode cX12_finds 53 = .ok (.goto (-15), 3) := by decide +kernel
theorem dX12_finds_56 : decode cX12_finds 56 = .ok (.aload_n 0, 1) := by decide +kernel
theorem dX12_finds_57 : decode cX12_finds 57 = .ok (.iconst 0, 1) := by decide +kernel
theorem dX12_finds_58 : decode cX12_finds 58 = .ok (.putfield 175, 3) := by decide +kernel
theorem dX12_finds_61 : decode cX12_finds 61 = .ok (.aload_n 0, 1) := by decide +kernel
theorem dX12_finds_62 : decode cX12_finds 62 = .ok (.iconst (-1), 1) := by decide +kernel
theorem dX12_finds_63 : decode cX12_finds 63 = .ok (.putfield 169, 3) := by decide +kernel
theorem dX12_finds_66 : decode cX12_finds 66 = .ok (.aload_n 0, 1) := by decide +kernel
theorem dX12_finds_67 : decode cX12_finds 67 = .ok (.invokevirtual 204, 3) := by decide +kernel
theorem dX12_finds_70 : decode cX12_finds 70 = .ok (.aload_n 0, 1) := by decide +kernel
theorem dX12_finds_71 : decode cX12_finds 71 = .ok (.iconst 0, 1) := by decide +kernel
theorem dX12_finds_72 : decode cX12_finds 72 = .ok (.iconst 0, 1) := by decide +kernel
theorem dX12_finds_73 : decode cX12_finds 73 = .ok (.iconst 0, 1) := by decide +kernel
theorem dX12_finds_74 : decode cX12_finds 74 = .ok (.iload_n 1, 1) := by decide +kernel
theorem dX12_finds_75 : decode cX12_finds 75 = .ok (.invokevirtual 181, 3) := by decide +kernel
theorem dX12_finds_78 : decode cX12_finds 78 = .ok (.aload_n 0, 1) := by decide +kernel
theorem dX12_finds_79 : decode cX12_finds 79 = .ok (.iconst 1, 1) := by decide +kernel
theorem dX12_finds_80 : decode cX12_finds 80 = .ok (.putfield 106, 3) := by decide +kernel
theorem dX12_finds_83 : decode cX12_finds 83 = .ok (.aload_n 0, 1) := by decide +kernel
theorem dX12_finds_84 : decode cX12_finds 84 = .ok (.iload_n 1, 1) := by decide +kernel
theorem dX12_finds_85 : decode cX12_finds 85 = .ok (.invokevirtual 207, 3) := by decide +kernel
theorem dX12_finds_88 : decode cX12_finds 88 = .ok (.return_, 1) := by decide +kernel
set_option maxRecDepth 20000 in
theorem ggX12_spreads_X12_price : GoodIn wsX12_spreads wsX12_price := goodIn_ca (goodIn_r _ [18, 19, 3, 20, 21, 22, 23, 24, 25, 26, 27, 28, 29, 30, 31, 32, 33, 34, 35, 36, 37, 38, 39, 40, 41, 42, 43, 44, 45, 46, 47, 48, 49, 50, 51, 52, 53, 54, 55, 56] (by decide +kernel) (by decide +kernel)) (goodIn_sub (fun _ h => List.mem_cons_of_mem _ (List.mem_append_left _ (List.mem_append_right _ h))) (by decide +kernel))
set_option maxRecDepth 20000 in
theorem gX12_spreads_X12_price : GoodIn wsX12_spreads (wsV RX12 147 RX12 yX12_price wsX12_price) := goodIn_app (goodIn_of _ (by decide +kernel)) ggX12_spreads_X12_price
theorem dX12_spreads_0 : decode cX12_spreads 0 = .ok (.iconst 0, 1) := by decide +kernel
theorem dX12_spreads_1 : decode cX12_spreads 1 = .ok (.istore_n 2, 1) := by decide +kernel
theorem dX12_spreads_2 : decode cX12_spreads 2 = .ok (.iload_n 2, 1) := by decide +kernel
theorem dX12_spreads_3 : decode cX12_spreads 3 = .ok (.aload_n 0, 1) := by decide +kernel
theorem dX12_spreads_4 : decode cX12_spreads 4 = .ok (.getfield 93, 3) := by decide +kernel
theorem dX12_spreads_7 : decode cX12_spreads 7 = .ok (.if_icmp .ge 25, 3) := by decide +kernel
theorem dX12_spreads_10 : decode cX12_spreads 10 = .ok (.aload_n 0, 1) := by decide +kernel
theorem dX12_spreads_11 : decode cX12_spreads 11 = .ok (.getfield 16, 3) := by decide +kernel
theorem dX12_spreads_14 : decode cX12_spreads 14 = .ok (.aload_n 0, 1) := by decide +kernel
theorem dX12_spreads_15 : decode cX12_spreads 15 = .ok (.getfield 52, 3) := by decide +kernel
theorem dX12_spreads_18 : decode cX12_spreads 18 = .ok (.iload_n 2, 1) := by decide +kernel
theorem dX12_spreads_19 : decode cX12_spreads 19 = .ok (.iaload, 1) := by decide +kernel
theorem dX12_spreads_20 : decode cX12_spreads 20 = .ok (.aload_n 0, 1) := by decide +kernel
theorem dX12_spreads_21 : decode cX12_spreads 21 = .ok (.iload_n 2, 1) := by decide +kernel
theorem dX12_spreads_22 : decode cX12_spreads 22 = .ok (.invokevirtual 147, 3) := by decide +kernel
theorem dX12_spreads_25 : decode cX12_spreads 25 = .ok (.iastore, 1) := by decide +kernel
theorem dX12_spreads_26 : decode cX12_spreads 26 = .ok (.iinc 2 1, 3) := by decide +kernel
theorem dX12_spreads_29 : decode cX12_spreads 29 = .ok (.goto (-27), 3) := by decide +kernel
theorem dX12_spreads_32 : decode cX12_spreads 32 = .ok (.iconst 0, 1) := by decide +kernel
theorem dX12_spreads_33 : decode cX12_spreads 33 = .ok (.istore_n 2, 1) := by decide +kernel
theorem dX12_spreads_34 : decode cX12_spreads 34 = .ok (.iload_n 2, 1) := by decide +kernel
theorem dX12_spreads_35 : decode cX12_spreads 35 = .ok (.aload_n 0, 1) := by decide +kernel
theorem dX12_spreads_36 : decode cX12_spreads 36 = .ok (.getfield 178, 3) := by decide +kernel
theorem dX12_spreads_39 : decode cX12_spreads 39 = .ok (.if_icmp .ge 188, 3) := by decide +kernel
theorem dX12_spreads_42 : decode cX12_spreads 42 = .ok (.iconst 0, 1) := by decide +kernel
theorem dX12_spreads_43 : decode cX12_spreads 43 = .ok (.istore_n 3, 1) := by decide +kernel
theorem dX12_spreads_44 : decode cX12_spreads 44 = .ok (.iconst 0, 1) := by decide +kernel
theorem dX12_spreads_45 : decode cX12_spreads 45 = .ok (.istore 4, 2) := by decide +kernel
theorem dX12_spreads_47 : decode cX12_spreads 47 = .ok (.iload 4, 2) := by decide +kernel
theorem dX12_spreads_49 : decode cX12_spreads 49 = .ok (.aload_n 0, 1) := by decide +kernel
theorem dX12_spreads_50 : decode cX12_spreads 50 = .ok (.getfield 93, 3) := by decide +kernel
theorem dX12_spreads_53 : decode cX12_spreads 53 = .ok (.if_icmp .ge 33, 3) := by decide +kernel
theorem dX12_spreads_56 : decode cX12_spreads 56 = .ok (.iload_n 3, 1) := by decide +kernel
theorem dX12_spreads_57 : decode cX12_spreads 57 = .ok (.aload_n 0, 1) := by decide +kernel
theorem dX12_spreads_58 : decode cX12_spreads 58 = .ok (.getfield 73, 3) := by decide +kernel
theorem dX12_spreads_61 : decode cX12_spreads 61 = .ok (.iload 4, 2) := by decide +kernel
theorem dX12_spreads_63 : decode cX12_spreads 63 = .ok (.iaload, 1) := by decide +kernel
theorem dX12_spreads_64 : decode cX12_spreads 64 = .ok (.iload_n 2, 1) := by decide +kernel
theorem dX12_spreads_65 : decode cX12_spreads 65 = .ok (.if_icmp .ne 12, 3) := by decide +kernel
theorem dX12_spreads_68 : decode cX12_spreads 68 = .ok (.aload_n 0, 1) := by decide +kernel
theorem dX12_spreads_69 : decode cX12_spreads 69 = .ok (.iload 4, 2) := by decide +kernel
theorem dX12_spreads_71 : decode cX12_spreads 71 = .ok (.invokevirtual 147, 3) := by decide +kernel
theorem dX12_spreads_74 : decode cX12_spreads 74 = .ok (.goto 4, 3) := by decide +kernel
theorem dX12_spreads_77 : decode cX12_spreads 77 = .ok (.iconst 0, 1) := by decide +kernel
theorem dX12_spreads_78 : decode cX12_spreads 78 = .ok (.iadd, 1) := by decide +kernel
theorem dX12_spreads_79 : decode cX12_spreads 79 = .ok (.istore_n 3, 1) := by decide +kernel
theorem dX12_spreads_80 : decode cX12_spreads 80 = .ok (.iinc 4 1, 3) := by decide +kernel
theorem dX12_spreads_83 : decode cX12_spreads 83 = .ok (.goto (-36), 3) := by decide +kernel
theorem dX12_spreads_86 : decode cX12_spreads 86 = .ok (.aload_n 0, 1) := by decide +kernel
theorem dX12_spreads_87 : decode cX12_spreads 87 = .ok (.getfield 82, 3) := by decide +kernel
theorem dX12_spreads_90 : decode cX12_spreads 90 = .ok (.iload_n 2, 1) := by decide +kernel
theorem dX12_spreads_91 : decode cX12_spreads 91 = .ok (.iaload, 1) := by decide +kernel
theorem dX12_spreads_92 : decode cX12_spreads 92 = .ok (.istore 4, 2) := by decide +kernel
theorem dX12_spreads_94 : decode cX12_spreads 94 = .ok (.iconst 0, 1) := by decide +kernel
theorem dX12_spreads_95 : decode cX12_spreads 95 = .ok (.istore 5, 2) := by decide +kernel
theorem dX12_spreads_97 : decode cX12_spreads 97 = .ok (.iload 5, 2) := by decide +kernel
theorem dX12_spreads_99 : decode cX12_spreads 99 = .ok (.aload_n 0, 1) := by decide +kernel
theorem dX12_spreads_100 : decode cX12_spreads 100 = .ok (.getfield 93, 3) := by decide +kernel
theorem dX12_spreads_103 : decode cX12_spreads 103 = .ok (.if_icmp .ge 65, 3) := by decide +kernel
theorem dX12_spreads_106 : decode cX12_spreads 106 = .ok (.aload_n 0, 1) := by decide +kernel
theorem dX12_spreads_107 : decode cX12_spreads 107 = .ok (.getfield 73, 3) := by decide +kernel
theorem dX12_spreads_110 : decode cX12_spreads 110 = .ok (.iload 5, 2) := by decide +kernel
theorem dX12_spreads_112 : decode cX12_spreads 112 = .ok (.iaload, 1) := by decide +kernel
theorem dX12_spreads_113 : decode cX12_spreads 113 = .ok (.iload_n 2, 1) := by decide +kernel
theorem dX12_spreads_114 : decode cX12_spreads 114 = .ok (.if_icmp .ne 21, 3) := by decide +kernel
theorem dX12_spreads_117 : decode cX12_spreads 117 = .ok (.aload_n 0, 1) := by decide +kernel
theorem dX12_spreads_118 : decode cX12_spreads 118 = .ok (.getfield 82, 3) := by decide +kernel
theorem dX12_spreads_121 : decode cX12_spreads 121 = .ok (.iload_n 2, 1) := by decide +kernel
theorem dX12_spreads_122 : decode cX12_spreads 122 = .ok (.iaload, 1) := by decide +kernel
theorem dX12_spreads_123 : decode cX12_spreads 123 = .ok (.aload_n 0, 1) := by decide +kernel
theorem dX12_spreads_124 : decode cX12_spreads 124 = .ok (.iload 5, 2) := by decide +kernel
theorem dX12_spreads_126 : decode cX12_spreads 126 = .ok (.invokevirtual 147, 3) := by decide +kernel
theorem dX12_spreads_129 : decode cX12_spreads 129 = .ok (.imul, 1) := by decide +kernel
theorem dX12_spreads_130 : decode cX12_spreads 130 = .ok (.iload_n 3, 1) := by decide +kernel
theorem dX12_spreads_131 : decode cX12_spreads 131 = .ok (.idiv, 1) := by decide +kernel
theorem dX12_spreads_132 : decode cX12_spreads 132 = .ok (.goto 4, 3) := by decide +kernel
theorem dX12_spreads_135 : decode cX12_spreads 135 = .ok (.iconst 0, 1) := by decide +kernel
theorem dX12_spreads_136 : decode cX12_spreads 136 = .ok (.istore 6, 2) := by decide +kernel
theorem dX12_spreads_138 : decode cX12_spreads 138 = .ok (.aload_n 0, 1) := by decide +kernel
theorem dX12_spreads_139 : decode cX12_spreads 139 = .ok (.getfield 16, 3) := by decide +kernel
theorem dX12_spreads_142 : decode cX12_spreads 142 = .ok (.aload_n 0, 1) := by decide +kernel
theorem dX12_spreads_143 : decode cX12_spreads 143 = .ok (.getfield 52, 3) := by decide +kernel
theorem dX12_spreads_146 : decode cX12_spreads 146 = .ok (.iload 5, 2) := by decide +kernel
theorem dX12_spreads_148 : decode cX12_spreads 148 = .ok (.iaload, 1) := by decide +kernel
theorem dX12_spreads_149 : decode cX12_spreads 149 = .ok (.dup2, 1) := by decide +kernel
theorem dX12_spreads_150 : decode cX12_spreads 150 = .ok (.iaload, 1) := by decide +kernel
theorem dX12_spreads_151 : decode cX12_spreads 151 = .ok (.iload 6, 2) := by decide +kernel
theorem dX12_spreads_153 : decode cX12_spreads 153 = .ok (.isub, 1) := by decide +kernel
theorem dX12_spreads_154 : decode cX12_spreads 154 = .ok (.iastore, 1) := by decide +kernel
theorem dX12_spreads_155 : decode cX12_spreads 155 = .ok (.iload 4, 2) := by decide +kernel
theorem dX12_spreads_157 : decode cX12_spreads 157 = .ok (.iload 6, 2) := by decide +kernel
theorem dX12_spreads_159 : decode cX12_spreads 159 = .ok (.isub, 1) := by decide +kernel
theorem dX12_spreads_160 : decode cX12_spreads 160 = .ok (.istore 4, 2) := by decide +kernel
theorem dX12_spreads_162 : decode cX12_spreads 162 = .ok (.iinc 5 1, 3) := by decide +kernel
theorem dX12_spreads_165 : decode cX12_spreads 165 = .ok (.goto (-68), 3) := by decide +kernel
theorem dX12_spreads_168 : decode cX12_spreads 168 = .ok (.iconst 0, 1) := by decide +kernel
theorem dX12_spreads_169 : decode cX12_spreads 169 = .ok (.istore 5, 2) := by decide +kernel
theorem dX12_spreads_171 : decode cX12_spreads 171 = .ok (.iload 5, 2) := by decide +kernel
theorem dX12_spreads_173 : decode cX12_spreads 173 = .ok (.aload_n 0, 1) := by decide +kernel
theorem dX12_spreads_174 : decode cX12_spreads 174 = .ok (.getfield 93, 3) := by decide +kernel
theorem dX12_spreads_177 : decode cX12_spreads 177 = .ok (.if_icmp .ge 44, 3) := by decide +kernel
theorem dX12_spreads_180 : decode cX12_spreads 180 = .ok (.iload 4, 2) := by decide +kernel
theorem dX12_spreads_182 : decode cX12_spreads 182 = .ok (.ifCond .le 39, 3) := by decide +kernel
theorem dX12_spreads_185 : decode cX12_spreads 185 = .ok (.aload_n 0, 1) := by decide +kernel
theorem dX12_spreads_186 : decode cX12_spreads 186 = .ok (.getfield 73, 3) := by decide +kernel
theorem dX12_spreads_189 : decode cX12_spreads 189 = .ok (.iload 5, 2) := by decide +kernel
theorem dX12_spreads_191 : decode cX12_spreads 191 = .ok (.iaload, 1) := by decide +kernel
theorem dX12_spreads_192 : decode cX12_spreads 192 = .ok (.iload_n 2, 1) := by decide +kernel
theorem dX12_spreads_193 : decode cX12_spreads 193 = .ok (.if_icmp .ne 22, 3) := by decide +kernel
theorem dX12_spreads_196 : decode cX12_spreads 196 = .ok (.aload_n 0, 1) := by decide +kernel
theorem dX12_spreads_197 : decode cX12_spreads 197 = .ok (.getfield 16, 3) := by decide +kernel
theorem dX12_spreads_200 : decode cX12_spreads 200 = .ok (.aload_n 0, 1) := by decide +kernel
theorem dX12_spreads_201 : decode cX12_spreads 201 = .ok (.getfield 52, 3) := by decide +kernel
theorem dX12_spreads_204 : decode cX12_spreads 204 = .ok (.iload 5, 2) := by decide +kernel
theorem dX12_spreads_206 : decode cX12_spreads 206 = .ok (.iaload, 1) := by decide +kernel
theorem dX12_spreads_207 : decode cX12_spreads 207 = .ok (.dup2, 1) := by decide +kernel
theorem dX12_spreads_208 : decode cX12_spreads 208 = .ok (.iaload, 1) := by decide +kernel
theorem dX12_spreads_209 : decode cX12_spreads 209 = .ok (.iconst 1, 1) := by decide +kernel
theorem dX12_spreads_210 : decode cX12_spreads 210 = .ok (.isub, 1) := by decide +kernel
theorem dX12_spreads_211 : decode cX12_spreads 211 = .ok (.iastore, 1) := by decide +kernel
theorem dX12_spreads_212 : decode cX12_spreads 212 = .ok (.iinc 4 (-1), 3) := by decide +kernel
theorem dX12_spreads_215 : decode cX12_spreads 215 = .ok (.iinc 5 1, 3) := by decide +kernel
theorem dX12_spreads_218 : decode cX12_spreads 218 = .ok (.goto (-47), 3) := by decide +kernel
theorem dX12_spreads_221 : decode cX12_spreads 221 = .ok (.iinc 2 1, 3) := by decide +kernel
theorem dX12_spreads_224 : decode cX12_spreads 224 = .ok (.goto (-190), 3) := by decide +kernel
theorem dX12_spreads_227 : decode cX12_spreads 227 = .ok (.aload_n 0, 1) := by decide +kernel
theorem dX12_spreads_228 : decode cX12_spreads 228 = .ok (.getfield 169, 3) := by decide +kernel
theorem dX12_spreads_231 : decode cX12_spreads 231 = .ok (.aload_n 0, 1) := by decide +kernel
theorem dX12_spreads_232 : decode cX12_spreads 232 = .ok (.getfield 172, 3) := by decide +kernel
theorem dX12_spreads_235 : decode cX12_spreads 235 = .ok (.isub, 1) := by decide +kernel
theorem dX12_spreads_236 : decode cX12_spreads 236 = .ok (.istore_n 2, 1) := by decide +kernel
theorem dX12_spreads_237 : decode cX12_spreads 237 = .ok (.iload_n 1, 1) := by decide +kernel
theorem dX12_spreads_238 : decode cX12_spreads 238 = .ok (.aload_n 0, 1) := by decide +kernel
theorem dX12_spreads_239 : decode cX12_spreads 239 = .ok (.getfield 172, 3) := by decide +kernel
theorem dX12_spreads_242 : decode cX12_spreads 242 = .ok (.isub, 1) := by decide +kernel
theorem dX12_spreads_243 : decode cX12_spreads 243 = .ok (.istore_n 3, 1) := by decide +kernel
theorem dX12_spreads_244 : decode cX12_spreads 244 = .ok (.iload_n 2, 1) := by decide +kernel
theorem dX12_spreads_245 : decode cX12_spreads 245 = .ok (.iload_n 3, 1) := by decide +kernel
theorem dX12_spreads_246 : decode cX12_spreads 246 = .ok (.invokestatic 150, 3) := by decide +kernel
theorem dX12_spreads_249 : decode cX12_spreads 249 = .ok (.istore_n 2, 1) := by decide +kernel
theorem dX12_spreads_250 : decode cX12_spreads 250 = .ok (.iload_n 2, 1) := by decide +kernel
theorem dX12_spreads_251 : decode cX12_spreads 251 = .ok (.istore 4, 2) := by decide +kernel
theorem dX12_spreads_253 : decode cX12_spreads 253 = .ok (.iconst 0, 1) := by decide +kernel
theorem dX12_spreads_254 : decode cX12_spreads 254 = .ok (.istore 5, 2) := by decide +kernel
theorem dX12_spreads_256 : decode cX12_spreads 256 = .ok (.iload 5, 2) := by decide +kernel
