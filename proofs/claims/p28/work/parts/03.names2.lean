set_option maxRecDepth 20000 in
theorem ggX1_spread_X1_netOf : GoodIn wsX1_spread wsX1_netOf := goodIn_ca (goodIn_r _ [11, 5, 12, 13, 14, 15, 16, 19, 20, 21, 22] (by decide +kernel) (by decide +kernel)) (goodIn_sub (fun _ h => List.mem_cons_of_mem _ (List.mem_append_right _ h)) (by decide +kernel))
set_option maxRecDepth 20000 in
theorem gX1_spread_X1_netOf : GoodIn wsX1_spread (wsV RX1 61 RX1 yX1_netOf wsX1_netOf) := goodIn_app (goodIn_of _ (by decide +kernel)) ggX1_spread_X1_netOf
set_option maxRecDepth 20000 in
theorem ggX1_spread_X11_isIn : GoodIn wsX1_spread wsX11_isIn := goodIn_r _ [14] (by decide +kernel) (by decide +kernel)
set_option maxRecDepth 20000 in
theorem gX1_spread_X11_isIn_n70 : GoodIn wsX1_spread (wsX11_isIn) := ggX1_spread_X11_isIn
set_option maxRecDepth 20000 in
theorem ggX1_spread_X11_at : GoodIn wsX1_spread wsX11_at := goodIn_ca (goodIn_r _ [16] (by decide +kernel) (by decide +kernel)) (goodIn_sub (fun _ h => List.mem_cons_of_mem _ (List.mem_append_right _ h)) (by decide +kernel))
set_option maxRecDepth 20000 in
theorem gX1_spread_X11_at_n74 : GoodIn wsX1_spread (wsX11_at) := ggX1_spread_X11_at
set_option maxRecDepth 20000 in
theorem ggX1_spread_X11_setAt : GoodIn wsX1_spread wsX11_setAt := goodIn_ca (goodIn_r _ [18] (by decide +kernel) (by decide +kernel)) (goodIn_sub (fun _ h => List.mem_cons_of_mem _ (List.mem_append_right _ h)) (by decide +kernel))
set_option maxRecDepth 20000 in
theorem gX1_spread_X11_setAt_n32 : GoodIn wsX1_spread (wsX11_setAt) := ggX1_spread_X11_setAt
theorem dX1_spread_0 : decode cX1_spread 0 = .ok (.aload_n 0, 1) := by decide +kernel
theorem dX1_spread_1 : decode cX1_spread 1 = .ok (.iload_n 2, 1) := by decide +kernel
theorem dX1_spread_2 : decode cX1_spread 2 = .ok (.invokevirtual 61, 3) := by decide +kernel
theorem dX1_spread_5 : decode cX1_spread 5 = .ok (.istore_n 3, 1) := by decide +kernel
theorem dX1_spread_6 : decode cX1_spread 6 = .ok (.iload_n 3, 1) := by decide +kernel
theorem dX1_spread_7 : decode cX1_spread 7 = .ok (.ifCond .gt 4, 3) := by decide +kernel
theorem dX1_spread_10 : decode cX1_spread 10 = .ok (.return_, 1) := by decide +kernel
theorem dX1_spread_11 : decode cX1_spread 11 = .ok (.iload_n 1, 1) := by decide +kernel
theorem dX1_spread_12 : decode cX1_spread 12 = .ok (.iload_n 3, 1) := by decide +kernel
theorem dX1_spread_13 : decode cX1_spread 13 = .ok (.invokestatic 64, 3) := by decide +kernel
theorem dX1_spread_16 : decode cX1_spread 16 = .ok (.istore 4, 2) := by decide +kernel
theorem dX1_spread_18 : decode cX1_spread 18 = .ok (.iload 4, 2) := by decide +kernel
theorem dX1_spread_20 : decode cX1_spread 20 = .ok (.istore 5, 2) := by decide +kernel
theorem dX1_spread_22 : decode cX1_spread 22 = .ok (.iconst 0, 1) := by decide +kernel
theorem dX1_spread_23 : decode cX1_spread 23 = .ok (.istore 6, 2) := by decide +kernel
theorem dX1_spread_25 : decode cX1_spread 25 = .ok (.iload 6, 2) := by decide +kernel
theorem dX1_spread_27 : decode cX1_spread 27 = .ok (.bipush 7, 2) := by decide +kernel
theorem dX1_spread_29 : decode cX1_spread 29 = .ok (.if_icmp .ge 56, 3) := by decide +kernel
theorem dX1_spread_32 : decode cX1_spread 32 = .ok (.iload_n 2, 1) := by decide +kernel
theorem dX1_spread_33 : decode cX1_spread 33 = .ok (.iload 6, 2) := by decide +kernel
theorem dX1_spread_35 : decode cX1_spread 35 = .ok (.invokestatic 70, 3) := by decide +kernel
theorem dX1_spread_38 : decode cX1_spread 38 = .ok (.ifCond .eq 20, 3) := by decide +kernel
theorem dX1_spread_41 : decode cX1_spread 41 = .ok (.iload 4, 2) := by decide +kernel
theorem dX1_spread_43 : decode cX1_spread 43 = .ok (.aload_n 0, 1) := by decide +kernel
theorem dX1_spread_44 : decode cX1_spread 44 = .ok (.getfield 9, 3) := by decide +kernel
theorem dX1_spread_47 : decode cX1_spread 47 = .ok (.iload 6, 2) := by decide +kernel
theorem dX1_spread_49 : decode cX1_spread 49 = .ok (.invokestatic 74, 3) := by decide +kernel
theorem dX1_spread_52 : decode cX1_spread 52 = .ok (.imul, 1) := by decide +kernel
theorem dX1_spread_53 : decode cX1_spread 53 = .ok (.iload_n 3, 1) := by decide +kernel
theorem dX1_spread_54 : decode cX1_spread 54 = .ok (.idiv, 1) := by decide +kernel
theorem dX1_spread_55 : decode cX1_spread 55 = .ok (.goto 4, 3) := by decide +kernel
theorem dX1_spread_58 : decode cX1_spread 58 = .ok (.iconst 0, 1) := by decide +kernel
theorem dX1_spread_59 : decode cX1_spread 59 = .ok (.istore 7, 2) := by decide +kernel
theorem dX1_spread_61 : decode cX1_spread 61 = .ok (.aload_n 0, 1) := by decide +kernel
theorem dX1_spread_62 : decode cX1_spread 62 = .ok (.getfield 15, 3) := by decide +kernel
theorem dX1_spread_65 : decode cX1_spread 65 = .ok (.iload 6, 2) := by decide +kernel
theorem dX1_spread_67 : decode cX1_spread 67 = .ok (.iload 7, 2) := by decide +kernel
theorem dX1_spread_69 : decode cX1_spread 69 = .ok (.invokestatic 32, 3) := by decide +kernel
theorem dX1_spread_72 : decode cX1_spread 72 = .ok (.iload 5, 2) := by decide +kernel
theorem dX1_spread_74 : decode cX1_spread 74 = .ok (.iload 7, 2) := by decide +kernel
theorem dX1_spread_76 : decode cX1_spread 76 = .ok (.isub, 1) := by decide +kernel
theorem dX1_spread_77 : decode cX1_spread 77 = .ok (.istore 5, 2) := by decide +kernel
theorem dX1_spread_79 : decode cX1_spread 79 = .ok (.iinc 6 1, 3) := by decide +kernel
theorem dX1_spread_82 : decode cX1_spread 82 = .ok (.goto (-57), 3) := by decide +kernel
theorem dX1_spread_85 : decode cX1_spread 85 = .ok (.iconst 0, 1) := by decide +kernel
theorem dX1_spread_86 : decode cX1_spread 86 = .ok (.istore 6, 2) := by decide +kernel
theorem dX1_spread_88 : decode cX1_spread 88 = .ok (.iload 6, 2) := by decide +kernel
theorem dX1_spread_90 : decode cX1_spread 90 = .ok (.bipush 7, 2) := by decide +kernel
theorem dX1_spread_92 : decode cX1_spread 92 = .ok (.if_icmp .ge 109, 3) := by decide +kernel
theorem dX1_spread_95 : decode cX1_spread 95 = .ok (.iload 5, 2) := by decide +kernel
theorem dX1_spread_97 : decode cX1_spread 97 = .ok (.ifCond .le 37, 3) := by decide +kernel
theorem dX1_spread_100 : decode cX1_spread 100 = .ok (.iload_n 2, 1) := by decide +kernel
theorem dX1_spread_101 : decode cX1_spread 101 = .ok (.iload 6, 2) := by decide +kernel
theorem dX1_spread_103 : decode cX1_spread 103 = .ok (.invokestatic 70, 3) := by decide +kernel
theorem dX1_spread_106 : decode cX1_spread 106 = .ok (.ifCond .eq 28, 3) := by decide +kernel
theorem dX1_spread_109 : decode cX1_spread 109 = .ok (.aload_n 0, 1) := by decide +kernel
theorem dX1_spread_110 : decode cX1_spread 110 = .ok (.getfield 15, 3) := by decide +kernel
theorem dX1_spread_113 : decode cX1_spread 113 = .ok (.iload 6, 2) := by decide +kernel
theorem dX1_spread_115 : decode cX1_spread 115 = .ok (.invokestatic 74, 3) := by decide +kernel
theorem dX1_spread_118 : decode cX1_spread 118 = .ok (.aload_n 0, 1) := by decide +kernel
theorem dX1_spread_119 : decode cX1_spread 119 = .ok (.getfield 9, 3) := by decide +kernel
theorem dX1_spread_122 : decode cX1_spread 122 = .ok (.iload 6, 2) := by decide +kernel
theorem dX1_spread_124 : decode cX1_spread 124 = .ok (.invokestatic 74, 3) := by decide +kernel
theorem dX1_spread_127 : decode cX1_spread 127 = .ok (.if_icmp .ge 7, 3) := by decide +kernel
theorem dX1_spread_130 : decode cX1_spread 130 = .ok (.iconst 1, 1) := by decide +kernel
theorem dX1_spread_131 : decode cX1_spread 131 = .ok (.goto 4, 3) := by decide +kernel
theorem dX1_spread_134 : decode cX1_spread 134 = .ok (.iconst 0, 1) := by decide +kernel
theorem dX1_spread_135 : decode cX1_spread 135 = .ok (.istore 7, 2) := by decide +kernel
theorem dX1_spread_137 : decode cX1_spread 137 = .ok (.aload_n 0, 1) := by decide +kernel
theorem dX1_spread_138 : decode cX1_spread 138 = .ok (.getfield 15, 3) := by decide +kernel
theorem dX1_spread_141 : decode cX1_spread 141 = .ok (.iload 6, 2) := by decide +kernel
theorem dX1_spread_143 : decode cX1_spread 143 = .ok (.invokestatic 74, 3) := by decide +kernel
theorem dX1_spread_146 : decode cX1_spread 146 = .ok (.iload 7, 2) := by decide +kernel
theorem dX1_spread_148 : decode cX1_spread 148 = .ok (.ifCond .eq 7, 3) := by decide +kernel
theorem dX1_spread_151 : decode cX1_spread 151 = .ok (.iconst 1, 1) := by decide +kernel
theorem dX1_spread_152 : decode cX1_spread 152 = .ok (.goto 4, 3) := by decide +kernel
theorem dX1_spread_155 : decode cX1_spread 155 = .ok (.iconst 0, 1) := by decide +kernel
theorem dX1_spread_156 : decode cX1_spread 156 = .ok (.iadd, 1) := by decide +kernel
theorem dX1_spread_157 : decode cX1_spread 157 = .ok (.istore 8, 2) := by decide +kernel
theorem dX1_spread_159 : decode cX1_spread 159 = .ok (.iload 5, 2) := by decide +kernel
theorem dX1_spread_161 : decode cX1_spread 161 = .ok (.iload 7, 2) := by decide +kernel
theorem dX1_spread_163 : decode cX1_spread 163 = .ok (.ifCond .eq 7, 3) := by decide +kernel
theorem dX1_spread_166 : decode cX1_spread 166 = .ok (.iconst 1, 1) := by decide +kernel
theorem dX1_spread_167 : decode cX1_spread 167 = .ok (.goto 4, 3) := by decide +kernel
theorem dX1_spread_170 : decode cX1_spread 170 = .ok (.iconst 0, 1) := by decide +kernel
theorem dX1_spread_171 : decode cX1_spread 171 = .ok (.isub, 1) := by decide +kernel
theorem dX1_spread_172 : decode cX1_spread 172 = .ok (.istore 5, 2) := by decide +kernel
theorem dX1_spread_174 : decode cX1_spread 174 = .ok (.aload_n 0, 1) := by decide +kernel
theorem dX1_spread_175 : decode cX1_spread 175 = .ok (.getfield 9, 3) := by decide +kernel
theorem dX1_spread_178 : decode cX1_spread 178 = .ok (.iload 6, 2) := by decide +kernel
theorem dX1_spread_180 : decode cX1_spread 180 = .ok (.aload_n 0, 1) := by decide +kernel
theorem dX1_spread_181 : decode cX1_spread 181 = .ok (.getfield 9, 3) := by decide +kernel
theorem dX1_spread_184 : decode cX1_spread 184 = .ok (.iload 6, 2) := by decide +kernel
theorem dX1_spread_186 : decode cX1_spread 186 = .ok (.invokestatic 74, 3) := by decide +kernel
theorem dX1_spread_189 : decode cX1_spread 189 = .ok (.iload 8, 2) := by decide +kernel
theorem dX1_spread_191 : decode cX1_spread 191 = .ok (.isub, 1) := by decide +kernel
theorem dX1_spread_192 : decode cX1_spread 192 = .ok (.invokestatic 32, 3) := by decide +kernel
theorem dX1_spread_195 : decode cX1_spread 195 = .ok (.iinc 6 1, 3) := by decide +kernel
theorem dX1_spread_198 : decode cX1_spread 198 = .ok (.goto (-110), 3) := by decide +kernel
theorem dX1_spread_201 : decode cX1_spread 201 = .ok (.return_, 1) := by decide +kernel
set_option maxRecDepth 20000 in
theorem ggX1_netOf_X11_isIn : GoodIn wsX1_netOf wsX11_isIn := goodIn_r _ [4] (by decide +kernel) (by decide +kernel)
set_option maxRecDepth 20000 in
theorem gX1_netOf_X11_isIn_n70 : GoodIn wsX1_netOf (wsX11_isIn) := ggX1_netOf_X11_isIn
set_option maxRecDepth 20000 in
theorem ggX1_netOf_X11_at : GoodIn wsX1_netOf wsX11_at := goodIn_ca (goodIn_r _ [6] (by decide +kernel) (by decide +kernel)) (goodIn_sub (fun _ h => List.mem_cons_of_mem _ (List.mem_append_right _ h)) (by decide +kernel))
set_option maxRecDepth 20000 in
theorem gX1_netOf_X11_at_n74 : GoodIn wsX1_netOf (wsX11_at) := ggX1_netOf_X11_at
theorem dX1_netOf_0 : decode cX1_netOf 0 = .ok (.iconst 0, 1) := by decide +kernel
theorem dX1_netOf_1 : decode cX1_netOf 1 = .ok (.istore_n 2, 1) := by decide +kernel
theorem dX1_netOf_2 : decode cX1_netOf 2 = .ok (.iconst 0, 1) := by decide +kernel
theorem dX1_netOf_3 : decode cX1_netOf 3 = .ok (.istore_n 3, 1) := by decide +kernel
theorem dX1_netOf_4 : decode cX1_netOf 4 = .ok (.iload_n 3, 1) := by decide +kernel
theorem dX1_netOf_5 : decode cX1_netOf 5 = .ok (.bipush 7, 2) := by decide +kernel
theorem dX1_netOf_7 : decode cX1_netOf 7 = .ok (.if_icmp .ge 28, 3) := by decide +kernel
theorem dX1_netOf_10 : decode cX1_netOf 10 = .ok (.iload_n 1, 1) := by decide +kernel
theorem dX1_netOf_11 : decode cX1_netOf 11 = .ok (.iload_n 3, 1) := by decide +kernel
theorem dX1_netOf_12 : decode cX1_netOf 12 = .ok (.invokestatic 70, 3) := by decide +kernel
theorem dX1_netOf_15 : decode cX1_netOf 15 = .ok (.ifCond .eq 14, 3) := by decide +kernel
theorem dX1_netOf_18 : decode cX1_netOf 18 = .ok (.iload_n 2, 1) := by decide +kernel
theorem dX1_netOf_19 : decode cX1_netOf 19 = .ok (.aload_n 0, 1) := by decide +kernel
theorem dX1_netOf_20 : decode cX1_netOf 20 = .ok (.getfield 9, 3) := by decide +kernel
theorem dX1_netOf_23 : decode cX1_netOf 23 = .ok (.iload_n 3, 1) := by decide +kernel
theorem dX1_netOf_24 : decode cX1_netOf 24 = .ok (.invokestatic 74, 3) := by decide +kernel
theorem dX1_netOf_27 : decode cX1_netOf 27 = .ok (.iadd, 1) := by decide +kernel
theorem dX1_netOf_28 : decode cX1_netOf 28 = .ok (.istore_n 2, 1) := by decide +kernel
theorem dX1_netOf_29 : decode cX1_netOf 29 = .ok (.iinc 3 1, 3) := by decide +kernel
theorem dX1_netOf_32 : decode cX1_netOf 32 = .ok (.goto (-28), 3) := by decide +kernel
theorem dX1_netOf_35 : decode cX1_netOf 35 = .ok (.iload_n 2, 1) := by decide +kernel
theorem dX1_netOf_36 : decode cX1_netOf 36 = .ok (.ireturn, 1) := by decide +kernel
set_option maxRecDepth 20000 in
theorem ggX1_netAt_X11_at : GoodIn wsX1_netAt wsX11_at := goodIn_ca (goodIn_r _ [4] (by decide +kernel) (by decide +kernel)) (goodIn_sub (fun _ h => List.mem_cons_of_mem _ (List.mem_append_right _ h)) (by decide +kernel))
set_option maxRecDepth 20000 in
theorem gX1_netAt_X11_at_n74 : GoodIn wsX1_netAt (wsX11_at) := ggX1_netAt_X11_at
theorem dX1_netAt_0 : decode cX1_netAt 0 = .ok (.aload_n 0, 1) := by decide +kernel
theorem dX1_netAt_1 : decode cX1_netAt 1 = .ok (.getfield 9, 3) := by decide +kernel
theorem dX1_netAt_4 : decode cX1_netAt 4 = .ok (.iload_n 1, 1) := by decide +kernel
theorem dX1_netAt_5 : decode cX1_netAt 5 = .ok (.invokestatic 74, 3) := by decide +kernel
theorem dX1_netAt_8 : decode cX1_netAt 8 = .ok (.ireturn, 1) := by decide +kernel
set_option maxRecDepth 20000 in
theorem ggX1_total_X0_mask : GoodIn wsX1_total wsX0_mask := goodIn_r _ [6, 7, 8, 9, 10, 25, 26, 27, 28, 29] (by decide +kernel) (by decide +kernel)
set_option maxRecDepth 20000 in
theorem gX1_total_X0_mask : GoodIn wsX1_total (wsV RX1 58 RX0 yX0_mask wsX0_mask) := goodIn_app (goodIn_of _ (by decide +kernel)) ggX1_total_X0_mask
set_option maxRecDepth 20000 in
theorem ggX1_total_X1_netOf : GoodIn wsX1_total wsX1_netOf := goodIn_ca (goodIn_r _ [15, 16, 17, 9, 18, 19, 20, 21, 22, 23, 24] (by decide +kernel) (by decide +kernel)) (goodIn_sub (fun _ h => List.mem_cons_of_mem _ (List.mem_append_right _ h)) (by decide +kernel))
set_option maxRecDepth 20000 in
theorem gX1_total_X1_netOf : GoodIn wsX1_total (wsV RX1 61 RX1 yX1_netOf wsX1_netOf) := goodIn_app (goodIn_of _ (by decide +kernel)) ggX1_total_X1_netOf
theorem dX1_total_0 : decode cX1_total 0 = .ok (.aload_n 0, 1) := by decide +kernel
theorem dX1_total_1 : decode cX1_total 1 = .ok (.aload_n 0, 1) := by decide +kernel
theorem dX1_total_2 : decode cX1_total 2 = .ok (.getfield 18, 3) := by decide +kernel
theorem dX1_total_5 : decode cX1_total 5 = .ok (.invokevirtual 58, 3) := by decide +kernel
theorem dX1_total_8 : decode cX1_total 8 = .ok (.invokevirtual 61, 3) := by decide +kernel
theorem dX1_total_11 : decode cX1_total 11 = .ok (.ireturn, 1) := by decide +kernel
set_option maxRecDepth 20000 in
theorem ggX2_init_X5_init : GoodIn wsX2_init wsX5_init := goodIn_r _ [11, 12, 13, 14, 15, 16, 17, 18, 19, 20, 21, 22, 23, 24, 25, 26, 27, 28, 29, 30, 31, 32, 33, 34, 35, 36, 37] (by decide +kernel) (by decide +kernel)
set_option maxRecDepth 20000 in
theorem gX2_init_X5_init : GoodIn wsX2_init (wsX5_init) := ggX2_init_X5_init
theorem dX2_init_0 : decode cX2_init 0 = .ok (.aload_n 0, 1) := by decide +kernel
theorem dX2_init_1 : decode cX2_init 1 = .ok (.iload 5, 2) := by decide +kernel
theorem dX2_init_3 : decode cX2_init 3 = .ok (.iload 6, 2) := by decide +kernel
theorem dX2_init_5 : decode cX2_init 5 = .ok (.invokespecial 3, 3) := by decide +kernel
theorem dX2_init_8 : decode cX2_init 8 = .ok (.aload_n 0, 1) := by decide +kernel
theorem dX2_init_9 : decode cX2_init 9 = .ok (.iload_n 1, 1) := by decide +kernel
theorem dX2_init_10 : decode cX2_init 10 = .ok (.putfield 9, 3) := by decide +kernel
theorem dX2_init_13 : decode cX2_init 13 = .ok (.aload_n 0, 1) := by decide +kernel
theorem dX2_init_14 : decode cX2_init 14 = .ok (.iload_n 2, 1) := by decide +kernel
theorem dX2_init_15 : decode cX2_init 15 = .ok (.putfield 15, 3) := by decide +kernel
theorem dX2_init_18 : decode cX2_init 18 = .ok (.aload_n 0, 1) := by decide +kernel
theorem dX2_init_19 : decode cX2_init 19 = .ok (.iload_n 3, 1) := by decide +kernel
theorem dX2_init_20 : decode cX2_init 20 = .ok (.putfield 18, 3) := by decide +kernel
theorem dX2_init_23 : decode cX2_init 23 = .ok (.aload_n 0, 1) := by decide +kernel
theorem dX2_init_24 : decode cX2_init 24 = .ok (.iload 4, 2) := by decide +kernel
theorem dX2_init_26 : decode cX2_init 26 = .ok (.putfield 21, 3) := by decide +kernel
theorem dX2_init_29 : decode cX2_init 29 = .ok (.iload_n 1, 1) := by decide +kernel
theorem dX2_init_30 : decode cX2_init 30 = .ok (.iload_n 2, 1) := by decide +kernel
theorem dX2_init_31 : decode cX2_init 31 = .ok (.if_icmp .ne 7, 3) := by decide +kernel
theorem dX2_init_34 : decode cX2_init 34 = .ok (.iconst 1, 1) := by decide +kernel
theorem dX2_init_35 : decode cX2_init 35 = .ok (.goto 4, 3) := by decide +kernel
theorem dX2_init_38 : decode cX2_init 38 = .ok (.iconst 0, 1) := by decide +kernel
theorem dX2_init_39 : decode cX2_init 39 = .ok (.istore 7, 2) := by decide +kernel
theorem dX2_init_41 : decode cX2_init 41 = .ok (.iload_n 1, 1) := by decide +kernel
theorem dX2_init_42 : decode cX2_init 42 = .ok (.iload_n 3, 1) := by decide +kernel
theorem dX2_init_43 : decode cX2_init 43 = .ok (.if_icmp .ne 7, 3) := by decide +kernel
theorem dX2_init_46 : decode cX2_init 46 = .ok (.iconst 1, 1) := by decide +kernel
theorem dX2_init_47 : decode cX2_init 47 = .ok (.goto 4, 3) := by decide +kernel
theorem dX2_init_50 : decode cX2_init 50 = .ok (.iconst 0, 1) := by decide +kernel
theorem dX2_init_51 : decode cX2_init 51 = .ok (.istore 8, 2) := by decide +kernel
theorem dX2_init_53 : decode cX2_init 53 = .ok (.iload_n 2, 1) := by decide +kernel
theorem dX2_init_54 : decode cX2_init 54 = .ok (.iload_n 3, 1) := by decide +kernel
theorem dX2_init_55 : decode cX2_init 55 = .ok (.if_icmp .ne 7, 3) := by decide +kernel
theorem dX2_init_58 : decode cX2_init 58 = .ok (.iconst 1, 1) := by decide +kernel
theorem dX2_init_59 : decode cX2_init 59 = .ok (.goto 4, 3) := by decide +kernel
theorem dX2_init_62 : decode cX2_init 62 = .ok (.iconst 0, 1) := by decide +kernel
theorem dX2_init_63 : decode cX2_init 63 = .ok (.istore 9, 2) := by decide +kernel
theorem dX2_init_65 : decode cX2_init 65 = .ok (.aload_n 0, 1) := by decide +kernel
theorem dX2_init_66 : decode cX2_init 66 = .ok (.iconst 1, 1) := by decide +kernel
theorem dX2_init_67 : decode cX2_init 67 = .ok (.iload 7, 2) := by decide +kernel
theorem dX2_init_69 : decode cX2_init 69 = .ok (.iadd, 1) := by decide +kernel
theorem dX2_init_70 : decode cX2_init 70 = .ok (.iload 8, 2) := by decide +kernel
theorem dX2_init_72 : decode cX2_init 72 = .ok (.iadd, 1) := by decide +kernel
theorem dX2_init_73 : decode cX2_init 73 = .ok (.putfield 24, 3) := by decide +kernel
theorem dX2_init_76 : decode cX2_init 76 = .ok (.aload_n 0, 1) := by decide +kernel
theorem dX2_init_77 : decode cX2_init 77 = .ok (.iconst 1, 1) := by decide +kernel
theorem dX2_init_78 : decode cX2_init 78 = .ok (.iload 7, 2) := by decide +kernel
theorem dX2_init_80 : decode cX2_init 80 = .ok (.iadd, 1) := by decide +kernel
theorem dX2_init_81 : decode cX2_init 81 = .ok (.iload 9, 2) := by decide +kernel
theorem dX2_init_83 : decode cX2_init 83 = .ok (.iadd, 1) := by decide +kernel
theorem dX2_init_84 : decode cX2_init 84 = .ok (.putfield 27, 3) := by decide +kernel
theorem dX2_init_87 : decode cX2_init 87 = .ok (.aload_n 0, 1) := by decide +kernel
theorem dX2_init_88 : decode cX2_init 88 = .ok (.iconst 1, 1) := by decide +kernel
theorem dX2_init_89 : decode cX2_init 89 = .ok (.iload 8, 2) := by decide +kernel
theorem dX2_init_91 : decode cX2_init 91 = .ok (.iadd, 1) := by decide +kernel
theorem dX2_init_92 : decode cX2_init 92 = .ok (.iload 9, 2) := by decide +kernel
theorem dX2_init_94 : decode cX2_init 94 = .ok (.iadd, 1) := by decide +kernel
theorem dX2_init_95 : decode cX2_init 95 = .ok (.putfield 30, 3) := by decide +kernel
theorem dX2_init_98 : decode cX2_init 98 = .ok (.return_, 1) := by decide +kernel
theorem dX2_itemsTaken_0 : decode cX2_itemsTaken 0 = .ok (.aload_n 0, 1) := by decide +kernel
theorem dX2_itemsTaken_1 : decode cX2_itemsTaken 1 = .ok (.getfield 18, 3) := by decide +kernel
theorem dX2_itemsTaken_4 : decode cX2_itemsTaken 4 = .ok (.iconst (-1), 1) := by decide +kernel
theorem dX2_itemsTaken_5 : decode cX2_itemsTaken 5 = .ok (.if_icmp .ne 7, 3) := by decide +kernel
theorem dX2_itemsTaken_8 : decode cX2_itemsTaken 8 = .ok (.iconst 2, 1) := by decide +kernel
theorem dX2_itemsTaken_9 : decode cX2_itemsTaken 9 = .ok (.goto 4, 3) := by decide +kernel
theorem dX2_itemsTaken_12 : decode cX2_itemsTaken 12 = .ok (.iconst 3, 1) := by decide +kernel
theorem dX2_itemsTaken_13 : decode cX2_itemsTaken 13 = .ok (.ireturn, 1) := by decide +kernel
set_option maxRecDepth 20000 in
theorem ggX2_discountOn_X0_countOf : GoodIn wsX2_discountOn wsX0_countOf := goodIn_ca (goodIn_r _ [12, 13, 14, 15, 16, 17, 18, 19, 34, 35, 36, 37, 38] (by decide +kernel) (by decide +kernel)) (goodIn_sub (fun _ h => List.mem_cons_of_mem _ (List.mem_append_right _ h)) (by decide +kernel))
set_option maxRecDepth 20000 in
theorem gX2_discountOn_X0_countOf : GoodIn wsX2_discountOn (wsV RX2 33 RX0 yX0_countOf wsX0_countOf) := goodIn_app (goodIn_of _ (by decide +kernel)) ggX2_discountOn_X0_countOf
set_option maxRecDepth 20000 in
theorem ggX2_discountOn_X0_priceOf : GoodIn wsX2_discountOn wsX0_priceOf := goodIn_ca (goodIn_r _ [23, 13, 24, 15, 16, 17, 18, 19, 34, 35, 36, 37, 38] (by decide +kernel) (by decide +kernel)) (goodIn_sub (fun _ h => List.mem_cons_of_mem _ (List.mem_append_right _ h)) (by decide +kernel))
set_option maxRecDepth 20000 in
theorem gX2_discountOn_X0_priceOf : GoodIn wsX2_discountOn (wsV RX2 39 RX0 yX0_priceOf wsX0_priceOf) := goodIn_app (goodIn_of _ (by decide +kernel)) ggX2_discountOn_X0_priceOf
theorem dX2_discountOn_0 : decode cX2_discountOn 0 = .ok (.aload_n 1, 1) := by decide +kernel
theorem dX2_discountOn_1 : decode cX2_discountOn 1 = .ok (.iload_n 2, 1) := by decide +kernel
theorem dX2_discountOn_2 : decode cX2_discountOn 2 = .ok (.aload_n 0, 1) := by decide +kernel
theorem dX2_discountOn_3 : decode cX2_discountOn 3 = .ok (.getfield 9, 3) := by decide +kernel
theorem dX2_discountOn_6 : decode cX2_discountOn 6 = .ok (.invokevirtual 33, 3) := by decide +kernel
theorem dX2_discountOn_9 : decode cX2_discountOn 9 = .ok (.aload_n 0, 1) := by decide +kernel
theorem dX2_discountOn_10 : decode cX2_discountOn 10 = .ok (.getfield 24, 3) := by decide +kernel
theorem dX2_discountOn_13 : decode cX2_discountOn 13 = .ok (.if_icmp .ne 43, 3) := by decide +kernel
theorem dX2_discountOn_16 : decode cX2_discountOn 16 = .ok (.aload_n 1, 1) := by decide +kernel
theorem dX2_discountOn_17 : decode cX2_discountOn 17 = .ok (.iload_n 2, 1) := by decide +kernel
theorem dX2_discountOn_18 : decode cX2_discountOn 18 = .ok (.aload_n 0, 1) := by decide +kernel
theorem dX2_discountOn_19 : decode cX2_discountOn 19 = .ok (.getfield 15, 3) := by decide +kernel
theorem dX2_discountOn_22 : decode cX2_discountOn 22 = .ok (.invokevirtual 33, 3) := by decide +kernel
theorem dX2_discountOn_25 : decode cX2_discountOn 25 = .ok (.aload_n 0, 1) := by decide +kernel
theorem dX2_discountOn_26 : decode cX2_discountOn 26 = .ok (.getfield 27, 3) := by decide +kernel
theorem dX2_discountOn_29 : decode cX2_discountOn 29 = .ok (.if_icmp .ne 27, 3) := by decide +kernel
theorem dX2_discountOn_32 : decode cX2_discountOn 32 = .ok (.aload_n 0, 1) := by decide +kernel
theorem dX2_discountOn_33 : decode cX2_discountOn 33 = .ok (.getfield 18, 3) := by decide +kernel
theorem dX2_discountOn_36 : decode cX2_discountOn 36 = .ok (.iconst (-1), 1) := by decide +kernel
theorem dX2_discountOn_37 : decode cX2_discountOn 37 = .ok (.if_icmp .eq 21, 3) := by decide +kernel
theorem dX2_discountOn_40 : decode cX2_discountOn 40 = .ok (.aload_n 1, 1) := by decide +kernel
theorem dX2_discountOn_41 : decode cX2_discountOn 41 = .ok (.iload_n 2, 1) := by decide +kernel
theorem dX2_discountOn_42 : decode cX2_discountOn 42 = .ok (.aload_n 0, 1) := by decide +kernel
theorem dX2_discountOn_43 : decode cX2_discountOn 43 = .ok (.getfield 18, 3) := by decide +kernel
theorem dX2_discountOn_46 : decode cX2_discountOn 46 = .ok (.invokevirtual 33, 3) := by decide +kernel
theorem dX2_discountOn_49 : decode cX2_discountOn 49 = .ok (.aload_n 0, 1) := by decide +kernel
theorem dX2_discountOn_50 : decode cX2_discountOn 50 = .ok (.getfield 30, 3) := by decide +kernel
theorem dX2_discountOn_53 : decode cX2_discountOn 53 = .ok (.if_icmp .eq 5, 3) := by decide +kernel
theorem dX2_discountOn_56 : decode cX2_discountOn 56 = .ok (.iconst (-1), 1) := by decide +kernel
theorem dX2_discountOn_57 : decode cX2_discountOn 57 = .ok (.ireturn, 1) := by decide +kernel
theorem dX2_discountOn_58 : decode cX2_discountOn 58 = .ok (.aload_n 1, 1) := by decide +kernel
theorem dX2_discountOn_59 : decode cX2_discountOn 59 = .ok (.iload_n 2, 1) := by decide +kernel
theorem dX2_discountOn_60 : decode cX2_discountOn 60 = .ok (.invokevirtual 39, 3) := by decide +kernel
theorem dX2_discountOn_63 : decode cX2_discountOn 63 = .ok (.aload_n 0, 1) := by decide +kernel
theorem dX2_discountOn_64 : decode cX2_discountOn 64 = .ok (.getfield 21, 3) := by decide +kernel
theorem dX2_discountOn_67 : decode cX2_discountOn 67 = .ok (.isub, 1) := by decide +kernel
theorem dX2_discountOn_68 : decode cX2_discountOn 68 = .ok (.istore_n 3, 1) := by decide +kernel
theorem dX2_discountOn_69 : decode cX2_discountOn 69 = .ok (.iload_n 3, 1) := by decide +kernel
theorem dX2_discountOn_70 : decode cX2_discountOn 70 = .ok (.ifCond .le 7, 3) := by decide +kernel
theorem dX2_discountOn_73 : decode cX2_discountOn 73 = .ok (.iload_n 3, 1) := by decide +kernel
theorem dX2_discountOn_74 : decode cX2_discountOn 74 = .ok (.goto 4, 3) := by decide +kernel
theorem dX2_discountOn_77 : decode cX2_discountOn 77 = .ok (.iconst (-1), 1) := by decide +kernel
theorem dX2_discountOn_78 : decode cX2_discountOn 78 = .ok (.ireturn, 1) := by decide +kernel
set_option maxRecDepth 20000 in
theorem ggX3_init_X5_init : GoodIn wsX3_init wsX5_init := goodIn_r _ [6, 7, 8, 9, 10, 11, 16, 17, 18, 19, 20, 21, 22, 23, 24, 12, 13, 14, 15, 25, 26, 27, 28, 29, 30, 31, 32] (by decide +kernel) (by decide +kernel)
set_option maxRecDepth 20000 in
theorem gX3_init_X5_init : GoodIn wsX3_init (wsX5_init) := ggX3_init_X5_init
theorem dX3_init_0 : decode cX3_init 0 = .ok (.aload_n 0, 1) := by decide +kernel
theorem dX3_init_1 : decode cX3_init 1 = .ok (.iload_n 3, 1) := by decide +kernel
theorem dX3_init_2 : decode cX3_init 2 = .ok (.iload 4, 2) := by decide +kernel
theorem dX3_init_4 : decode cX3_init 4 = .ok (.invokespecial 3, 3) := by decide +kernel
theorem dX3_init_7 : decode cX3_init 7 = .ok (.aload_n 0, 1) := by decide +kernel
theorem dX3_init_8 : decode cX3_init 8 = .ok (.iload_n 1, 1) := by decide +kernel
theorem dX3_init_9 : decode cX3_init 9 = .ok (.putfield 9, 3) := by decide +kernel
theorem dX3_init_12 : decode cX3_init 12 = .ok (.aload_n 0, 1) := by decide +kernel
theorem dX3_init_13 : decode cX3_init 13 = .ok (.iload_n 2, 1) := by decide +kernel
theorem dX3_init_14 : decode cX3_init 14 = .ok (.putfield 15, 3) := by decide +kernel
theorem dX3_init_17 : decode cX3_init 17 = .ok (.return_, 1) := by decide +kernel
theorem dX3_itemsTaken_0 : decode cX3_itemsTaken 0 = .ok (.aload_n 0, 1) := by decide +kernel
theorem dX3_itemsTaken_1 : decode cX3_itemsTaken 1 = .ok (.getfield 15, 3) := by decide +kernel
theorem dX3_itemsTaken_4 : decode cX3_itemsTaken 4 = .ok (.ireturn, 1) := by decide +kernel
set_option maxRecDepth 20000 in
theorem ggX3_discountOn_X0_countOf : GoodIn wsX3_discountOn wsX0_countOf := goodIn_ca (goodIn_r _ [7, 8, 9, 10, 11, 12, 13, 14, 28, 29, 30, 31, 32] (by decide +kernel) (by decide +kernel)) (goodIn_sub (fun _ h => List.mem_cons_of_mem _ (List.mem_append_right _ h)) (by decide +kernel))
set_option maxRecDepth 20000 in
theorem gX3_discountOn_X0_countOf : GoodIn wsX3_discountOn (wsV RX3 18 RX0 yX0_countOf wsX0_countOf) := goodIn_app (goodIn_of _ (by decide +kernel)) ggX3_discountOn_X0_countOf
set_option maxRecDepth 20000 in
theorem ggX3_discountOn_X0_cheapestOf : GoodIn wsX3_discountOn wsX0_cheapestOf := goodIn_ca (goodIn_r _ [18, 8, 19, 20, 21, 22, 23, 10, 11, 12, 13, 14, 28, 29, 30, 31, 32] (by decide +kernel) (by decide +kernel)) (goodIn_sub (fun _ h => List.mem_cons_of_mem _ (List.mem_append_right _ h)) (by decide +kernel))
set_option maxRecDepth 20000 in
theorem gX3_discountOn_X0_cheapestOf : GoodIn wsX3_discountOn (wsV RX3 24 RX0 yX0_cheapestOf wsX0_cheapestOf) := goodIn_app (goodIn_of _ (by decide +kernel)) ggX3_discountOn_X0_cheapestOf
theorem dX3_discountOn_0 : decode cX3_discountOn 0 = .ok (.aload_n 1, 1) := by decide +kernel
theorem dX3_discountOn_1 : decode cX3_discountOn 1 = .ok (.iload_n 2, 1) := by decide +kernel
theorem dX3_discountOn_2 : decode cX3_discountOn 2 = .ok (.aload_n 0, 1) := by decide +kernel
theorem dX3_discountOn_3 : decode cX3_discountOn 3 = .ok (.getfield 9, 3) := by decide +kernel
theorem dX3_discountOn_6 : decode cX3_discountOn 6 = .ok (.invokevirtual 18, 3) := by decide +kernel
theorem dX3_discountOn_9 : decode cX3_discountOn 9 = .ok (.aload_n 0, 1) := by decide +kernel
theorem dX3_discountOn_10 : decode cX3_discountOn 10 = .ok (.getfield 15, 3) := by decide +kernel
theorem dX3_discountOn_13 : decode cX3_discountOn 13 = .ok (.if_icmp .ne 11, 3) := by decide +kernel
theorem dX3_discountOn_16 : decode cX3_discountOn 16 = .ok (.aload_n 1, 1) := by decide +kernel
theorem dX3_discountOn_17 : decode cX3_discountOn 17 = .ok (.iload_n 2, 1) := by decide +kernel
theorem dX3_discountOn_18 : decode cX3_discountOn 18 = .ok (.invokevirtual 24, 3) := by decide +kernel
theorem dX3_discountOn_21 : decode cX3_discountOn 21 = .ok (.goto 4, 3) := by decide +kernel
theorem dX3_discountOn_24 : decode cX3_discountOn 24 = .ok (.iconst (-1), 1) := by decide +kernel
theorem dX3_discountOn_25 : decode cX3_discountOn 25 = .ok (.ireturn, 1) := by decide +kernel
theorem dX4_init_0 : decode cX4_init 0 = .ok (.aload_n 0, 1) := by decide +kernel
theorem dX4_init_1 : decode cX4_init 1 = .ok (.invokespecial 3, 3) := by decide +kernel
theorem dX4_init_4 : decode cX4_init 4 = .ok (.aload_n 0, 1) := by decide +kernel
theorem dX4_init_5 : decode cX4_init 5 = .ok (.bipush 60, 2) := by decide +kernel
theorem dX4_init_7 : decode cX4_init 7 = .ok (.newarray .boolean, 2) := by decide +kernel
theorem dX4_init_9 : decode cX4_init 9 = .ok (.putfield 9, 3) := by decide +kernel
theorem dX4_init_12 : decode cX4_init 12 = .ok (.aload_n 0, 1) := by decide +kernel
theorem dX4_init_13 : decode cX4_init 13 = .ok (.bipush 60, 2) := by decide +kernel
theorem dX4_init_15 : decode cX4_init 15 = .ok (.newarray .boolean, 2) := by decide +kernel
theorem dX4_init_17 : decode cX4_init 17 = .ok (.putfield 15, 3) := by decide +kernel
theorem dX4_init_20 : decode cX4_init 20 = .ok (.aload_n 0, 1) := by decide +kernel
theorem dX4_init_21 : decode cX4_init 21 = .ok (.bipush 60, 2) := by decide +kernel
theorem dX4_init_23 : decode cX4_init 23 = .ok (.newarray .int, 2) := by decide +kernel
theorem dX4_init_25 : decode cX4_init 25 = .ok (.putfield 18, 3) := by decide +kernel
theorem dX4_init_28 : decode cX4_init 28 = .ok (.aload_n 0, 1) := by decide +kernel
theorem dX4_init_29 : decode cX4_init 29 = .ok (.bipush 60, 2) := by decide +kernel
theorem dX4_init_31 : decode cX4_init 31 = .ok (.newarray .int, 2) := by decide +kernel
theorem dX4_init_33 : decode cX4_init 33 = .ok (.putfield 22, 3) := by decide +kernel
theorem dX4_init_36 : decode cX4_init 36 = .ok (.return_, 1) := by decide +kernel
set_option maxRecDepth 20000 in
theorem ggX4_enterSale_X11_setAt : GoodIn wsX4_enterSale wsX11_setAt := goodIn_ca (goodIn_r _ [9] (by decide +kernel) (by decide +kernel)) (goodIn_sub (fun _ h => List.mem_cons_of_mem _ (List.mem_append_right _ h)) (by decide +kernel))
set_option maxRecDepth 20000 in
theorem gX4_enterSale_X11_setAt_n25 : GoodIn wsX4_enterSale (wsX11_setAt) := ggX4_enterSale_X11_setAt
theorem dX4_enterSale_0 : decode cX4_enterSale 0 = .ok (.iload_n 1, 1) := by decide +kernel
theorem dX4_enterSale_1 : decode cX4_enterSale 1 = .ok (.ifCond .lt 12, 3) := by decide +kernel
theorem dX4_enterSale_4 : decode cX4_enterSale 4 = .ok (.iload_n 1, 1) := by decide +kernel
theorem dX4_enterSale_5 : decode cX4_enterSale 5 = .ok (.aload_n 0, 1) := by decide +kernel
theorem dX4_enterSale_6 : decode cX4_enterSale 6 = .ok (.getfield 9, 3) := by decide +kernel
theorem dX4_enterSale_9 : decode cX4_enterSale 9 = .ok (.arraylength, 1) := by decide +kernel
theorem dX4_enterSale_10 : decode cX4_enterSale 10 = .ok (.if_icmp .lt 4, 3) := by decide +kernel
theorem dX4_enterSale_13 : decode cX4_enterSale 13 = .ok (.return_, 1) := by decide +kernel
theorem dX4_enterSale_14 : decode cX4_enterSale 14 = .ok (.aload_n 0, 1) := by decide +kernel
theorem dX4_enterSale_15 : decode cX4_enterSale 15 = .ok (.getfield 9, 3) := by decide +kernel
theorem dX4_enterSale_18 : decode cX4_enterSale 18 = .ok (.iload_n 1, 1) := by decide +kernel
theorem dX4_enterSale_19 : decode cX4_enterSale 19 = .ok (.iconst 1, 1) := by decide +kernel
theorem dX4_enterSale_20 : decode cX4_enterSale 20 = .ok (.bastore, 1) := by decide +kernel
theorem dX4_enterSale_21 : decode cX4_enterSale 21 = .ok (.aload_n 0, 1) := by decide +kernel
theorem dX4_enterSale_22 : decode cX4_enterSale 22 = .ok (.getfield 18, 3) := by decide +kernel
theorem dX4_enterSale_25 : decode cX4_enterSale 25 = .ok (.iload_n 1, 1) := by decide +kernel
theorem dX4_enterSale_26 : decode cX4_enterSale 26 = .ok (.iload_n 2, 1) := by decide +kernel
theorem dX4_enterSale_27 : decode cX4_enterSale 27 = .ok (.invokestatic 25, 3) := by decide +kernel
theorem dX4_enterSale_30 : decode cX4_enterSale 30 = .ok (.aload_n 0, 1) := by decide +kernel
theorem dX4_enterSale_31 : decode cX4_enterSale 31 = .ok (.getfield 22, 3) := by decide +kernel
theorem dX4_enterSale_34 : decode cX4_enterSale 34 = .ok (.iload_n 1, 1) := by decide +kernel
theorem dX4_enterSale_35 : decode cX4_enterSale 35 = .ok (.iload 4, 2) := by decide +kernel
theorem dX4_enterSale_37 : decode cX4_enterSale 37 = .ok (.invokestatic 25, 3) := by decide +kernel
theorem dX4_enterSale_40 : decode cX4_enterSale 40 = .ok (.aload_n 0, 1) := by decide +kernel
theorem dX4_enterSale_41 : decode cX4_enterSale 41 = .ok (.dup, 1) := by decide +kernel
theorem dX4_enterSale_42 : decode cX4_enterSale 42 = .ok (.getfield 29, 3) := by decide +kernel
theorem dX4_enterSale_45 : decode cX4_enterSale 45 = .ok (.iconst 1, 1) := by decide +kernel
theorem dX4_enterSale_46 : decode cX4_enterSale 46 = .ok (.iadd, 1) := by decide +kernel
theorem dX4_enterSale_47 : decode cX4_enterSale 47 = .ok (.putfield 29, 3) := by decide +kernel
theorem dX4_enterSale_50 : decode cX4_enterSale 50 = .ok (.aload_n 0, 1) := by decide +kernel
theorem dX4_enterSale_51 : decode cX4_enterSale 51 = .ok (.dup, 1) := by decide +kernel
theorem dX4_enterSale_52 : decode cX4_enterSale 52 = .ok (.getfield 33, 3) := by decide +kernel
theorem dX4_enterSale_55 : decode cX4_enterSale 55 = .ok (.iload_n 3, 1) := by decide +kernel
theorem dX4_enterSale_56 : decode cX4_enterSale 56 = .ok (.iadd, 1) := by decide +kernel
theorem dX4_enterSale_57 : decode cX4_enterSale 57 = .ok (.putfield 33, 3) := by decide +kernel
theorem dX4_enterSale_60 : decode cX4_enterSale 60 = .ok (.aload_n 0, 1) := by decide +kernel
theorem dX4_enterSale_61 : decode cX4_enterSale 61 = .ok (.dup, 1) := by decide +kernel
theorem dX4_enterSale_62 : decode cX4_enterSale 62 = .ok (.getfield 36, 3) := by decide +kernel
theorem dX4_enterSale_65 : decode cX4_enterSale 65 = .ok (.iload 4, 2) := by decide +kernel
theorem dX4_enterSale_67 : decode cX4_enterSale 67 = .ok (.iadd, 1) := by decide +kernel
theorem dX4_enterSale_68 : decode cX4_enterSale 68 = .ok (.putfield 36, 3) := by decide +kernel
theorem dX4_enterSale_71 : decode cX4_enterSale 71 = .ok (.return_, 1) := by decide +kernel
theorem dX4_countUses_0 : decode cX4_countUses 0 = .ok (.aload_n 0, 1) := by decide +kernel
theorem dX4_countUses_1 : decode cX4_countUses 1 = .ok (.dup, 1) := by decide +kernel
theorem dX4_countUses_2 : decode cX4_countUses 2 = .ok (.getfield 39, 3) := by decide +kernel
theorem dX4_countUses_5 : decode cX4_countUses 5 = .ok (.iload_n 1, 1) := by decide +kernel
theorem dX4_countUses_6 : decode cX4_countUses 6 = .ok (.iadd, 1) := by decide +kernel
theorem dX4_countUses_7 : decode cX4_countUses 7 = .ok (.putfield 39, 3) := by decide +kernel
theorem dX4_countUses_10 : decode cX4_countUses 10 = .ok (.return_, 1) := by decide +kernel
set_option maxRecDepth 20000 in
theorem ggX4_enterReturn_X11_at : GoodIn wsX4_enterReturn wsX11_at := goodIn_ca (goodIn_r _ [6] (by decide +kernel) (by decide +kernel)) (goodIn_sub (fun _ h => List.mem_cons_of_mem _ (List.mem_append_right _ h)) (by decide +kernel))
set_option maxRecDepth 20000 in
theorem gX4_enterReturn_X11_at_n45 : GoodIn wsX4_enterReturn (wsX11_at) := ggX4_enterReturn_X11_at
theorem dX4_enterReturn_0 : decode cX4_enterReturn 0 = .ok (.iload_n 1, 1) := by decide +kernel
theorem dX4_enterReturn_1 : decode cX4_enterReturn 1 = .ok (.ifCond .lt 36, 3) := by decide +kernel
theorem dX4_enterReturn_4 : decode cX4_enterReturn 4 = .ok (.iload_n 1, 1) := by decide +kernel
theorem dX4_enterReturn_5 : decode cX4_enterReturn 5 = .ok (.aload_n 0, 1) := by decide +kernel
theorem dX4_enterReturn_6 : decode cX4_enterReturn 6 = .ok (.getfield 15, 3) := by decide +kernel
theorem dX4_enterReturn_9 : decode cX4_enterReturn 9 = .ok (.arraylength, 1) := by decide +kernel
theorem dX4_enterReturn_10 : decode cX4_enterReturn 10 = .ok (.if_icmp .ge 27, 3) := by decide +kernel
theorem dX4_enterReturn_13 : decode cX4_enterReturn 13 = .ok (.aload_n 0, 1) := by decide +kernel
theorem dX4_enterReturn_14 : decode cX4_enterReturn 14 = .ok (.getfield 15, 3) := by decide +kernel
theorem dX4_enterReturn_17 : decode cX4_enterReturn 17 = .ok (.iload_n 1, 1) := by decide +kernel
theorem dX4_enterReturn_18 : decode cX4_enterReturn 18 = .ok (.iconst 1, 1) := by decide +kernel
theorem dX4_enterReturn_19 : decode cX4_enterReturn 19 = .ok (.bastore, 1) := by decide +kernel
theorem dX4_enterReturn_20 : decode cX4_enterReturn 20 = .ok (.aload_n 0, 1) := by decide +kernel
theorem dX4_enterReturn_21 : decode cX4_enterReturn 21 = .ok (.dup, 1) := by decide +kernel
theorem dX4_enterReturn_22 : decode cX4_enterReturn 22 = .ok (.getfield 42, 3) := by decide +kernel
theorem dX4_enterReturn_25 : decode cX4_enterReturn 25 = .ok (.aload_n 0, 1) := by decide +kernel
theorem dX4_enterReturn_26 : decode cX4_enterReturn 26 = .ok (.getfield 22, 3) := by decide +kernel
theorem dX4_enterReturn_29 : decode cX4_enterReturn 29 = .ok (.iload_n 1, 1) := by decide +kernel
theorem dX4_enterReturn_30 : decode cX4_enterReturn 30 = .ok (.invokestatic 45, 3) := by decide +kernel
theorem dX4_enterReturn_33 : decode cX4_enterReturn 33 = .ok (.iadd, 1) := by decide +kernel
theorem dX4_enterReturn_34 : decode cX4_enterReturn 34 = .ok (.putfield 42, 3) := by decide +kernel
theorem dX4_enterReturn_37 : decode cX4_enterReturn 37 = .ok (.aload_n 0, 1) := by decide +kernel
theorem dX4_enterReturn_38 : decode cX4_enterReturn 38 = .ok (.getfield 22, 3) := by decide +kernel
theorem dX4_enterReturn_41 : decode cX4_enterReturn 41 = .ok (.iload_n 1, 1) := by decide +kernel
theorem dX4_enterReturn_42 : decode cX4_enterReturn 42 = .ok (.invokestatic 45, 3) := by decide +kernel
theorem dX4_enterReturn_45 : decode cX4_enterReturn 45 = .ok (.ireturn, 1) := by decide +kernel
theorem dX4_wasSold_0 : decode cX4_wasSold 0 = .ok (.iload_n 1, 1) := by decide +kernel
theorem dX4_wasSold_1 : decode cX4_wasSold 1 = .ok (.ifCond .lt 25, 3) := by decide +kernel
theorem dX4_wasSold_4 : decode cX4_wasSold 4 = .ok (.iload_n 1, 1) := by decide +kernel
theorem dX4_wasSold_5 : decode cX4_wasSold 5 = .ok (.aload_n 0, 1) := by decide +kernel
theorem dX4_wasSold_6 : decode cX4_wasSold 6 = .ok (.getfield 9, 3) := by decide +kernel
theorem dX4_wasSold_9 : decode cX4_wasSold 9 = .ok (.arraylength, 1) := by decide +kernel
theorem dX4_wasSold_10 : decode cX4_wasSold 10 = .ok (.if_icmp .ge 16, 3) := by decide +kernel
theorem dX4_wasSold_13 : decode cX4_wasSold 13 = .ok (.aload_n 0, 1) := by decide +kernel
theorem dX4_wasSold_14 : decode cX4_wasSold 14 = .ok (.getfield 9, 3) := by decide +kernel
theorem dX4_wasSold_17 : decode cX4_wasSold 17 = .ok (.iload_n 1, 1) := by decide +kernel
theorem dX4_wasSold_18 : decode cX4_wasSold 18 = .ok (.baload, 1) := by decide +kernel
theorem dX4_wasSold_19 : decode cX4_wasSold 19 = .ok (.ifCond .eq 7, 3) := by decide +kernel
theorem dX4_wasSold_22 : decode cX4_wasSold 22 = .ok (.iconst 1, 1) := by decide +kernel
theorem dX4_wasSold_23 : decode cX4_wasSold 23 = .ok (.goto 4, 3) := by decide +kernel
theorem dX4_wasSold_26 : decode cX4_wasSold 26 = .ok (.iconst 0, 1) := by decide +kernel
theorem dX4_wasSold_27 : decode cX4_wasSold 27 = .ok (.ireturn, 1) := by decide +kernel
theorem dX4_wasGivenBack_0 : decode cX4_wasGivenBack 0 = .ok (.iload_n 1, 1) := by decide +kernel
theorem dX4_wasGivenBack_1 : decode cX4_wasGivenBack 1 = .ok (.ifCond .lt 25, 3) := by decide +kernel
theorem dX4_wasGivenBack_4 : decode cX4_wasGivenBack 4 = .ok (.iload_n 1, 1) := by decide +kernel
theorem dX4_wasGivenBack_5 : decode cX4_wasGivenBack 5 = .ok (.aload_n 0, 1) := by decide +kernel
theorem dX4_wasGivenBack_6 : decode cX4_wasGivenBack 6 = .ok (.getfield 15, 3) := by decide +kernel
theorem dX4_wasGivenBack_9 : decode cX4_wasGivenBack 9 = .ok (.arraylength, 1) := by decide +kernel
theorem dX4_wasGivenBack_10 : decode cX4_wasGivenBack 10 = .ok (.if_icmp .ge 16, 3) := by decide +kernel
theorem dX4_wasGivenBack_13 : decode cX4_wasGivenBack 13 = .ok (.aload_n 0, 1) := by decide +kernel
theorem dX4_wasGivenBack_14 : decode cX4_wasGivenBack 14 = .ok (.getfield 15, 3) := by decide +kernel
theorem dX4_wasGivenBack_17 : decode cX4_wasGivenBack 17 = .ok (.iload_n 1, 1) := by decide +kernel
theorem dX4_wasGivenBack_18 : decode cX4_wasGivenBack 18 = .ok (.baload, 1) := by decide +kernel
theorem dX4_wasGivenBack_19 : decode cX4_wasGivenBack 19 = .ok (.ifCond .eq 7, 3) := by decide +kernel
theorem dX4_wasGivenBack_22 : decode cX4_wasGivenBack 22 = .ok (.iconst 1, 1) := by decide +kernel
theorem dX4_wasGivenBack_23 : decode cX4_wasGivenBack 23 = .ok (.goto 4, 3) := by decide +kernel
theorem dX4_wasGivenBack_26 : decode cX4_wasGivenBack 26 = .ok (.iconst 0, 1) := by decide +kernel
theorem dX4_wasGivenBack_27 : decode cX4_wasGivenBack 27 = .ok (.ireturn, 1) := by decide +kernel
set_option maxRecDepth 20000 in
theorem ggX4_buyerOf_X11_at : GoodIn wsX4_buyerOf wsX11_at := goodIn_ca (goodIn_r _ [4] (by decide +kernel) (by decide +kernel)) (goodIn_sub (fun _ h => List.mem_cons_of_mem _ (List.mem_append_right _ h)) (by decide +kernel))
set_option maxRecDepth 20000 in
theorem gX4_buyerOf_X11_at_n45 : GoodIn wsX4_buyerOf (wsX11_at) := ggX4_buyerOf_X11_at
theorem dX4_buyerOf_0 : decode cX4_buyerOf 0 = .ok (.aload_n 0, 1) := by decide +kernel
theorem dX4_buyerOf_1 : decode cX4_buyerOf 1 = .ok (.getfield 18, 3) := by decide +kernel
theorem dX4_buyerOf_4 : decode cX4_buyerOf 4 = .ok (.iload_n 1, 1) := by decide +kernel
theorem dX4_buyerOf_5 : decode cX4_buyerOf 5 = .ok (.invokestatic 45, 3) := by decide +kernel
theorem dX4_buyerOf_8 : decode cX4_buyerOf 8 = .ok (.ireturn, 1) := by decide +kernel
theorem dX4_itemsSold_0 : decode cX4_itemsSold 0 = .ok (.aload_n 0, 1) := by decide +kernel
theorem dX4_itemsSold_1 : decode cX4_itemsSold 1 = .ok (.getfield 29, 3) := by decide +kernel
theorem dX4_itemsSold_4 : decode cX4_itemsSold 4 = .ok (.ireturn, 1) := by decide +kernel
theorem dX4_pricesSold_0 : decode cX4_pricesSold 0 = .ok (.aload_n 0, 1) := by decide +kernel
theorem dX4_pricesSold_1 : decode cX4_pricesSold 1 = .ok (.getfield 33, 3) := by decide +kernel
theorem dX4_pricesSold_4 : decode cX4_pricesSold 4 = .ok (.ireturn, 1) := by decide +kernel
theorem dX4_netsSold_0 : decode cX4_netsSold 0 = .ok (.aload_n 0, 1) := by decide +kernel
theorem dX4_netsSold_1 : decode cX4_netsSold 1 = .ok (.getfield 36, 3) := by decide +kernel
theorem dX4_netsSold_4 : decode cX4_netsSold 4 = .ok (.ireturn, 1) := by decide +kernel
theorem dX4_usesCounted_0 : decode cX4_usesCounted 0 = .ok (.aload_n 0, 1) := by decide +kernel
theorem dX4_usesCounted_1 : decode cX4_usesCounted 1 = .ok (.getfield 39, 3) := by decide +kernel
theorem dX4_usesCounted_4 : decode cX4_usesCounted 4 = .ok (.ireturn, 1) := by decide +kernel
theorem dX4_kept_0 : decode cX4_kept 0 = .ok (.aload_n 0, 1) := by decide +kernel
theorem dX4_kept_1 : decode cX4_kept 1 = .ok (.getfield 36, 3) := by decide +kernel
theorem dX4_kept_4 : decode cX4_kept 4 = .ok (.i2l, 1) := by decide +kernel
theorem dX4_kept_5 : decode cX4_kept 5 = .ok (.aload_n 0, 1) := by decide +kernel
theorem dX4_kept_6 : decode cX4_kept 6 = .ok (.getfield 42, 3) := by decide +kernel
theorem dX4_kept_9 : decode cX4_kept 9 = .ok (.i2l, 1) := by decide +kernel
theorem dX4_kept_10 : decode cX4_kept 10 = .ok (.lsub, 1) := by decide +kernel
theorem dX4_kept_11 : decode cX4_kept 11 = .ok (.lreturn, 1) := by decide +kernel
theorem dX5_init_0 : decode cX5_init 0 = .ok (.aload_n 0, 1) := by decide +kernel
theorem dX5_init_1 : decode cX5_init 1 = .ok (.invokespecial 3, 3) := by decide +kernel
theorem dX5_init_4 : decode cX5_init 4 = .ok (.aload_n 0, 1) := by decide +kernel
theorem dX5_init_5 : decode cX5_init 5 = .ok (.iload_n 1, 1) := by decide +kernel
theorem dX5_init_6 : decode cX5_init 6 = .ok (.putfield 9, 3) := by decide +kernel
theorem dX5_init_9 : decode cX5_init 9 = .ok (.aload_n 0, 1) := by decide +kernel
theorem dX5_init_10 : decode cX5_init 10 = .ok (.iload_n 2, 1) := by decide +kernel
theorem dX5_init_11 : decode cX5_init 11 = .ok (.putfield 15, 3) := by decide +kernel
theorem dX5_init_14 : decode cX5_init 14 = .ok (.return_, 1) := by decide +kernel
theorem dX5_limit_0 : decode cX5_limit 0 = .ok (.aload_n 0, 1) := by decide +kernel
theorem dX5_limit_1 : decode cX5_limit 1 = .ok (.getfield 9, 3) := by decide +kernel
theorem dX5_limit_4 : decode cX5_limit 4 = .ok (.ireturn, 1) := by decide +kernel
theorem dX5_isRivalOf_0 : decode cX5_isRivalOf 0 = .ok (.aload_n 0, 1) := by decide +kernel
theorem dX5_isRivalOf_1 : decode cX5_isRivalOf 1 = .ok (.getfield 15, 3) := by decide +kernel
theorem dX5_isRivalOf_4 : decode cX5_isRivalOf 4 = .ok (.iconst (-1), 1) := by decide +kernel
theorem dX5_isRivalOf_5 : decode cX5_isRivalOf 5 = .ok (.if_icmp .eq 22, 3) := by decide +kernel
theorem dX5_isRivalOf_8 : decode cX5_isRivalOf 8 = .ok (.aload_n 1, 1) := by decide +kernel
theorem dX5_isRivalOf_9 : decode cX5_isRivalOf 9 = .ok (.ifnull 18, 3) := by decide +kernel
theorem dX5_isRivalOf_12 : decode cX5_isRivalOf 12 = .ok (.aload_n 0, 1) := by decide +kernel
theorem dX5_isRivalOf_13 : decode cX5_isRivalOf 13 = .ok (.getfield 15, 3) := by decide +kernel
theorem dX5_isRivalOf_16 : decode cX5_isRivalOf 16 = .ok (.aload_n 1, 1) := by decide +kernel
theorem dX5_isRivalOf_17 : decode cX5_isRivalOf 17 = .ok (.getfield 15, 3) := by decide +kernel
theorem dX5_isRivalOf_20 : decode cX5_isRivalOf 20 = .ok (.if_icmp .ne 7, 3) := by decide +kernel
theorem dX5_isRivalOf_23 : decode cX5_isRivalOf 23 = .ok (.iconst 1, 1) := by decide +kernel
theorem dX5_isRivalOf_24 : decode cX5_isRivalOf 24 = .ok (.goto 4, 3) := by decide +kernel
theorem dX5_isRivalOf_27 : decode cX5_isRivalOf 27 = .ok (.iconst 0, 1) := by decide +kernel
theorem dX5_isRivalOf_28 : decode cX5_isRivalOf 28 = .ok (.ireturn, 1) := by decide +kernel
theorem dX5_itemsTaken_0 : decode cX5_itemsTaken 0 = .ok (.iconst 0, 1) := by decide +kernel
theorem dX5_itemsTaken_1 : decode cX5_itemsTaken 1 = .ok (.ireturn, 1) := by decide +kernel
theorem dX5_discountOn_0 : decode cX5_discountOn 0 = .ok (.iconst (-1), 1) := by decide +kernel
theorem dX5_discountOn_1 : decode cX5_discountOn 1 = .ok (.ireturn, 1) := by decide +kernel
theorem dX5_threshold_0 : decode cX5_threshold 0 = .ok (.iconst (-1), 1) := by decide +kernel
theorem dX5_threshold_1 : decode cX5_threshold 1 = .ok (.ireturn, 1) := by decide +kernel
theorem dX5_amount_0 : decode cX5_amount 0 = .ok (.iconst 0, 1) := by decide +kernel
theorem dX5_amount_1 : decode cX5_amount 1 = .ok (.ireturn, 1) := by decide +kernel
theorem dX6_init_0 : decode cX6_init 0 = .ok (.aload_n 0, 1) := by decide +kernel
theorem dX6_init_1 : decode cX6_init 1 = .ok (.invokespecial 3, 3) := by decide +kernel
theorem dX6_init_4 : decode cX6_init 4 = .ok (.aload_n 0, 1) := by decide +kernel
theorem dX6_init_5 : decode cX6_init 5 = .ok (.bipush 6, 2) := by decide +kernel
theorem dX6_init_7 : decode cX6_init 7 = .ok (.anewarray 9, 3) := by decide +kernel
theorem dX6_init_10 : decode cX6_init 10 = .ok (.putfield 11, 3) := by decide +kernel
theorem dX6_init_13 : decode cX6_init 13 = .ok (.aload_n 0, 1) := by decide +kernel
theorem dX6_init_14 : decode cX6_init 14 = .ok (.bipush 6, 2) := by decide +kernel
theorem dX6_init_16 : decode cX6_init 16 = .ok (.newarray .int, 2) := by decide +kernel
theorem dX6_init_18 : decode cX6_init 18 = .ok (.putfield 17, 3) := by decide +kernel
theorem dX6_init_21 : decode cX6_init 21 = .ok (.aload_n 0, 1) := by decide +kernel
theorem dX6_init_22 : decode cX6_init 22 = .ok (.bipush 6, 2) := by decide +kernel
theorem dX6_init_24 : decode cX6_init 24 = .ok (.newarray .int, 2) := by decide +kernel
theorem dX6_init_26 : decode cX6_init 26 = .ok (.putfield 21, 3) := by decide +kernel
theorem dX6_init_29 : decode cX6_init 29 = .ok (.aload_n 0, 1) := by decide +kernel
theorem dX6_init_30 : decode cX6_init 30 = .ok (.bipush 6, 2) := by decide +kernel
theorem dX6_init_32 : decode cX6_init 32 = .ok (.newarray .int, 2) := by decide +kernel
theorem dX6_init_34 : decode cX6_init 34 = .ok (.putfield 24, 3) := by decide +kernel
theorem dX6_init_37 : decode cX6_init 37 = .ok (.aload_n 0, 1) := by decide +kernel
theorem dX6_init_38 : decode cX6_init 38 = .ok (.bipush 24, 2) := by decide +kernel
theorem dX6_init_40 : decode cX6_init 40 = .ok (.newarray .int, 2) := by decide +kernel
theorem dX6_init_42 : decode cX6_init 42 = .ok (.putfield 27, 3) := by decide +kernel
theorem dX6_init_45 : decode cX6_init 45 = .ok (.return_, 1) := by decide +kernel
theorem dX6_isFull_0 : decode cX6_isFull 0 = .ok (.aload_n 0, 1) := by decide +kernel
theorem dX6_isFull_1 : decode cX6_isFull 1 = .ok (.getfield 30, 3) := by decide +kernel
theorem dX6_isFull_4 : decode cX6_isFull 4 = .ok (.bipush 6, 2) := by decide +kernel
theorem dX6_isFull_6 : decode cX6_isFull 6 = .ok (.if_icmp .lt 7, 3) := by decide +kernel
theorem dX6_isFull_9 : decode cX6_isFull 9 = .ok (.iconst 1, 1) := by decide +kernel
theorem dX6_isFull_10 : decode cX6_isFull 10 = .ok (.goto 4, 3) := by decide +kernel
theorem dX6_isFull_13 : decode cX6_isFull 13 = .ok (.iconst 0, 1) := by decide +kernel
theorem dX6_isFull_14 : decode cX6_isFull 14 = .ok (.ireturn, 1) := by decide +kernel
theorem dX6_size_0 : decode cX6_size 0 = .ok (.aload_n 0, 1) := by decide +kernel
theorem dX6_size_1 : decode cX6_size 1 = .ok (.getfield 30, 3) := by decide +kernel
theorem dX6_size_4 : decode cX6_size 4 = .ok (.ireturn, 1) := by decide +kernel
theorem dX6_has_0 : decode cX6_has 0 = .ok (.iload_n 1, 1) := by decide +kernel
theorem dX6_has_1 : decode cX6_has 1 = .ok (.ifCond .lt 15, 3) := by decide +kernel
theorem dX6_has_4 : decode cX6_has 4 = .ok (.iload_n 1, 1) := by decide +kernel
theorem dX6_has_5 : decode cX6_has 5 = .ok (.aload_n 0, 1) := by decide +kernel
theorem dX6_has_6 : decode cX6_has 6 = .ok (.getfield 30, 3) := by decide +kernel
theorem dX6_has_9 : decode cX6_has 9 = .ok (.if_icmp .ge 7, 3) := by decide +kernel
theorem dX6_has_12 : decode cX6_has 12 = .ok (.iconst 1, 1) := by decide +kernel
theorem dX6_has_13 : decode cX6_has 13 = .ok (.goto 4, 3) := by decide +kernel
theorem dX6_has_16 : decode cX6_has 16 = .ok (.iconst 0, 1) := by decide +kernel
theorem dX6_has_17 : decode cX6_has 17 = .ok (.ireturn, 1) := by decide +kernel
set_option maxRecDepth 20000 in
theorem ggX6_append_X5_isRivalOf : GoodIn wsX6_append wsX5_isRivalOf := goodIn_r _ [11, 12, 52, 53, 54, 55, 56, 57, 58, 59, 60, 61, 62, 63, 64, 65, 66, 67, 68, 69, 70, 71, 72] (by decide +kernel) (by decide +kernel)
set_option maxRecDepth 20000 in
theorem gX6_append_X5_isRivalOf_u34X2 : GoodIn wsX6_append (va_wsU RX6 34 RX2 "BasketOffers$Offer" ⟨"BasketOffers$Offer", "isRivalOf", "(LBasketOffers$Offer;)Z"⟩ yX5_isRivalOf wsX5_isRivalOf) := goodIn_app (goodIn_of _ (by decide +kernel)) ggX6_append_X5_isRivalOf
set_option maxRecDepth 20000 in
theorem gX6_append_X5_isRivalOf_u34X3 : GoodIn wsX6_append (va_wsU RX6 34 RX3 "BasketOffers$Offer" ⟨"BasketOffers$Offer", "isRivalOf", "(LBasketOffers$Offer;)Z"⟩ yX5_isRivalOf wsX5_isRivalOf) := goodIn_app (goodIn_of _ (by decide +kernel)) ggX6_append_X5_isRivalOf
set_option maxRecDepth 20000 in
theorem gX6_append_X5_isRivalOf_u34X7 : GoodIn wsX6_append (va_wsU RX6 34 RX7 "BasketOffers$Offer" ⟨"BasketOffers$Offer", "isRivalOf", "(LBasketOffers$Offer;)Z"⟩ yX5_isRivalOf wsX5_isRivalOf) := goodIn_app (goodIn_of _ (by decide +kernel)) ggX6_append_X5_isRivalOf
set_option maxRecDepth 20000 in
theorem gX6_append_X5_isRivalOf_u34X9 : GoodIn wsX6_append (va_wsU RX6 34 RX9 "BasketOffers$Offer" ⟨"BasketOffers$Offer", "isRivalOf", "(LBasketOffers$Offer;)Z"⟩ yX5_isRivalOf wsX5_isRivalOf) := goodIn_app (goodIn_of _ (by decide +kernel)) ggX6_append_X5_isRivalOf
set_option maxRecDepth 20000 in
theorem ggX6_append_X11_at : GoodIn wsX6_append wsX11_at := goodIn_ca (goodIn_r _ [18] (by decide +kernel) (by decide +kernel)) (goodIn_sub (fun _ h => List.mem_cons_of_mem _ (List.mem_append_right _ h)) (by decide +kernel))
set_option maxRecDepth 20000 in
theorem gX6_append_X11_at_n38 : GoodIn wsX6_append (wsX11_at) := ggX6_append_X11_at
set_option maxRecDepth 20000 in
theorem ggX6_append_X11_setAt : GoodIn wsX6_append wsX11_setAt := goodIn_ca (goodIn_r _ [20] (by decide +kernel) (by decide +kernel)) (goodIn_sub (fun _ h => List.mem_cons_of_mem _ (List.mem_append_right _ h)) (by decide +kernel))
set_option maxRecDepth 20000 in
theorem gX6_append_X11_setAt_n42 : GoodIn wsX6_append (wsX11_setAt) := ggX6_append_X11_setAt
set_option maxRecDepth 20000 in
theorem ggX6_append_X5_threshold : GoodIn wsX6_append wsX5_threshold := goodIn_r _ [25] (by decide +kernel) (by decide +kernel)
set_option maxRecDepth 20000 in
theorem gX6_append_X5_threshold_u46X2 : GoodIn wsX6_append (va_wsU RX6 46 RX2 "BasketOffers$Offer" ⟨"BasketOffers$Offer", "threshold", "()I"⟩ yX5_threshold wsX5_threshold) := goodIn_app (goodIn_of _ (by decide +kernel)) ggX6_append_X5_threshold
set_option maxRecDepth 20000 in
theorem gX6_append_X5_threshold_u46X3 : GoodIn wsX6_append (va_wsU RX6 46 RX3 "BasketOffers$Offer" ⟨"BasketOffers$Offer", "threshold", "()I"⟩ yX5_threshold wsX5_threshold) := goodIn_app (goodIn_of _ (by decide +kernel)) ggX6_append_X5_threshold
set_option maxRecDepth 20000 in
theorem gX6_append_X5_threshold_u46X7 : GoodIn wsX6_append (va_wsU RX6 46 RX7 "BasketOffers$Offer" ⟨"BasketOffers$Offer", "threshold", "()I"⟩ yX5_threshold wsX5_threshold) := goodIn_app (goodIn_of _ (by decide +kernel)) ggX6_append_X5_threshold
set_option maxRecDepth 20000 in
theorem ggX6_append_X9_threshold : GoodIn wsX6_append wsX9_threshold := goodIn_r _ [32, 33, 69, 70, 71, 72] (by decide +kernel) (by decide +kernel)
set_option maxRecDepth 20000 in
theorem gX6_append_X9_threshold_u46X9 : GoodIn wsX6_append (va_wsO RX6 46 RX9 "BasketOffers$Offer" ⟨"BasketOffers$Offer", "threshold", "()I"⟩ yX9_threshold wsX9_threshold) := goodIn_app (goodIn_of _ (by decide +kernel)) ggX6_append_X9_threshold
set_option maxRecDepth 20000 in
theorem ggX6_append_X5_amount : GoodIn wsX6_append wsX5_amount := goodIn_r _ [38] (by decide +kernel) (by decide +kernel)
set_option maxRecDepth 20000 in
theorem gX6_append_X5_amount_u50X2 : GoodIn wsX6_append (va_wsU RX6 50 RX2 "BasketOffers$Offer" ⟨"BasketOffers$Offer", "amount", "()I"⟩ yX5_amount wsX5_amount) := goodIn_app (goodIn_of _ (by decide +kernel)) ggX6_append_X5_amount
set_option maxRecDepth 20000 in
theorem gX6_append_X5_amount_u50X3 : GoodIn wsX6_append (va_wsU RX6 50 RX3 "BasketOffers$Offer" ⟨"BasketOffers$Offer", "amount", "()I"⟩ yX5_amount wsX5_amount) := goodIn_app (goodIn_of _ (by decide +kernel)) ggX6_append_X5_amount
set_option maxRecDepth 20000 in
theorem gX6_append_X5_amount_u50X7 : GoodIn wsX6_append (va_wsU RX6 50 RX7 "BasketOffers$Offer" ⟨"BasketOffers$Offer", "amount", "()I"⟩ yX5_amount wsX5_amount) := goodIn_app (goodIn_of _ (by decide +kernel)) ggX6_append_X5_amount
set_option maxRecDepth 20000 in
theorem ggX6_append_X9_amount : GoodIn wsX6_append wsX9_amount := goodIn_r _ [44, 45, 69, 70, 71, 72] (by decide +kernel) (by decide +kernel)
set_option maxRecDepth 20000 in
theorem gX6_append_X9_amount_u50X9 : GoodIn wsX6_append (va_wsO RX6 50 RX9 "BasketOffers$Offer" ⟨"BasketOffers$Offer", "amount", "()I"⟩ yX9_amount wsX9_amount) := goodIn_app (goodIn_of _ (by decide +kernel)) ggX6_append_X9_amount
theorem dX6_append_0 : decode cX6_append 0 = .ok (.aload_n 0, 1) := by decide +kernel
theorem dX6_append_1 : decode cX6_append 1 = .ok (.getfield 30, 3) := by decide +kernel
theorem dX6_append_4 : decode cX6_append 4 = .ok (.istore_n 2, 1) := by decide +kernel
theorem dX6_append_5 : decode cX6_append 5 = .ok (.aload_n 1, 1) := by decide +kernel
theorem dX6_append_6 : decode cX6_append 6 = .ok (.ifnull 16, 3) := by decide +kernel
theorem dX6_append_9 : decode cX6_append 9 = .ok (.iload_n 2, 1) := by decide +kernel
theorem dX6_append_10 : decode cX6_append 10 = .ok (.ifCond .lt 12, 3) := by decide +kernel
theorem dX6_append_13 : decode cX6_append 13 = .ok (.iload_n 2, 1) := by decide +kernel
theorem dX6_append_14 : decode cX6_append 14 = .ok (.aload_n 0, 1) := by decide +kernel
theorem dX6_append_15 : decode cX6_append 15 = .ok (.getfield 11, 3) := by decide +kernel
theorem dX6_append_18 : decode cX6_append 18 = .ok (.arraylength, 1) := by decide +kernel
theorem dX6_append_19 : decode cX6_append 19 = .ok (.if_icmp .lt 5, 3) := by decide +kernel
theorem dX6_append_22 : decode cX6_append 22 = .ok (.iconst (-1), 1) := by decide +kernel
theorem dX6_append_23 : decode cX6_append 23 = .ok (.ireturn, 1) := by decide +kernel
theorem dX6_append_24 : decode cX6_append 24 = .ok (.iconst 0, 1) := by decide +kernel
theorem dX6_append_25 : decode cX6_append 25 = .ok (.istore_n 3, 1) := by decide +kernel
theorem dX6_append_26 : decode cX6_append 26 = .ok (.iload_n 3, 1) := by decide +kernel
theorem dX6_append_27 : decode cX6_append 27 = .ok (.iload_n 2, 1) := by decide +kernel
theorem dX6_append_28 : decode cX6_append 28 = .ok (.if_icmp .ge 62, 3) := by decide +kernel
theorem dX6_append_31 : decode cX6_append 31 = .ok (.aload_n 1, 1) := by decide +kernel
theorem dX6_append_32 : decode cX6_append 32 = .ok (.aload_n 0, 1) := by decide +kernel
theorem dX6_append_33 : decode cX6_append 33 = .ok (.getfield 11, 3) := by decide +kernel
theorem dX6_append_36 : decode cX6_append 36 = .ok (.iload_n 3, 1) := by decide +kernel
theorem dX6_append_37 : decode cX6_append 37 = .ok (.aaload, 1) := by decide +kernel
theorem dX6_append_38 : decode cX6_append 38 = .ok (.invokevirtual 34, 3) := by decide +kernel
theorem dX6_append_41 : decode cX6_append 41 = .ok (.ifCond .eq 43, 3) := by decide +kernel
theorem dX6_append_44 : decode cX6_append 44 = .ok (.aload_n 0, 1) := by decide +kernel
theorem dX6_append_45 : decode cX6_append 45 = .ok (.getfield 17, 3) := by decide +kernel
theorem dX6_append_48 : decode cX6_append 48 = .ok (.iload_n 2, 1) := by decide +kernel
theorem dX6_append_49 : decode cX6_append 49 = .ok (.aload_n 0, 1) := by decide +kernel
theorem dX6_append_50 : decode cX6_append 50 = .ok (.getfield 17, 3) := by decide +kernel
theorem dX6_append_53 : decode cX6_append 53 = .ok (.iload_n 2, 1) := by decide +kernel
theorem dX6_append_54 : decode cX6_append 54 = .ok (.invokestatic 38, 3) := by decide +kernel
theorem dX6_append_57 : decode cX6_append 57 = .ok (.iconst 1, 1) := by decide +kernel
theorem dX6_append_58 : decode cX6_append 58 = .ok (.iload_n 3, 1) := by decide +kernel
theorem dX6_append_59 : decode cX6_append 59 = .ok (.ishl, 1) := by decide +kernel
theorem dX6_append_60 : decode cX6_append 60 = .ok (.ior, 1) := by decide +kernel
theorem dX6_append_61 : decode cX6_append 61 = .ok (.invokestatic 42, 3) := by decide +kernel
theorem dX6_append_64 : decode cX6_append 64 = .ok (.aload_n 0, 1) := by decide +kernel
theorem dX6_append_65 : decode cX6_append 65 = .ok (.getfield 17, 3) := by decide +kernel
theorem dX6_append_68 : decode cX6_append 68 = .ok (.iload_n 3, 1) := by decide +kernel
theorem dX6_append_69 : decode cX6_append 69 = .ok (.aload_n 0, 1) := by decide +kernel
theorem dX6_append_70 : decode cX6_append 70 = .ok (.getfield 17, 3) := by decide +kernel
theorem dX6_append_73 : decode cX6_append 73 = .ok (.iload_n 3, 1) := by decide +kernel
theorem dX6_append_74 : decode cX6_append 74 = .ok (.invokestatic 38, 3) := by decide +kernel
theorem dX6_append_77 : decode cX6_append 77 = .ok (.iconst 1, 1) := by decide +kernel
theorem dX6_append_78 : decode cX6_append 78 = .ok (.iload_n 2, 1) := by decide +kernel
theorem dX6_append_79 : decode cX6_append 79 = .ok (.ishl, 1) := by decide +kernel
theorem dX6_append_80 : decode cX6_append 80 = .ok (.ior, 1) := by decide +kernel
theorem dX6_append_81 : decode cX6_append 81 = .ok (.invokestatic 42, 3) := by decide +kernel
theorem dX6_append_84 : decode cX6_append 84 = .ok (.iinc 3 1, 3) := by decide +kernel
theorem dX6_append_87 : decode cX6_append 87 = .ok (.goto (-61), 3) := by decide +kernel
theorem dX6_append_90 : decode cX6_append 90 = .ok (.aload_n 0, 1) := by decide +kernel
theorem dX6_append_91 : decode cX6_append 91 = .ok (.getfield 11, 3) := by decide +kernel
theorem dX6_append_94 : decode cX6_append 94 = .ok (.iload_n 2, 1) := by decide +kernel
theorem dX6_append_95 : decode cX6_append 95 = .ok (.aload_n 1, 1) := by decide +kernel
theorem dX6_append_96 : decode cX6_append 96 = .ok (.aastore, 1) := by decide +kernel
theorem dX6_append_97 : decode cX6_append 97 = .ok (.aload_n 0, 1) := by decide +kernel
theorem dX6_append_98 : decode cX6_append 98 = .ok (.getfield 21, 3) := by decide +kernel
theorem dX6_append_101 : decode cX6_append 101 = .ok (.iload_n 2, 1) := by decide +kernel
theorem dX6_append_102 : decode cX6_append 102 = .ok (.aload_n 1, 1) := by decide +kernel
theorem dX6_append_103 : decode cX6_append 103 = .ok (.invokevirtual 46, 3) := by decide +kernel
theorem dX6_append_106 : decode cX6_append 106 = .ok (.invokestatic 42, 3) := by decide +kernel
theorem dX6_append_109 : decode cX6_append 109 = .ok (.aload_n 0, 1) := by decide +kernel
theorem dX6_append_110 : decode cX6_append 110 = .ok (.getfield 24, 3) := by decide +kernel
theorem dX6_append_113 : decode cX6_append 113 = .ok (.iload_n 2, 1) := by decide +kernel
theorem dX6_append_114 : decode cX6_append 114 = .ok (.aload_n 1, 1) := by decide +kernel
theorem dX6_append_115 : decode cX6_append 115 = .ok (.invokevirtual 50, 3) := by decide +kernel
theorem dX6_append_118 : decode cX6_append 118 = .ok (.invokestatic 42, 3) := by decide +kernel
theorem dX6_append_121 : decode cX6_append 121 = .ok (.aload_n 0, 1) := by decide +kernel
theorem dX6_append_122 : decode cX6_append 122 = .ok (.dup, 1) := by decide +kernel
theorem dX6_append_123 : decode cX6_append 123 = .ok (.getfield 30, 3) := by decide +kernel
theorem dX6_append_126 : decode cX6_append 126 = .ok (.iconst 1, 1) := by decide +kernel
theorem dX6_append_127 : decode cX6_append 127 = .ok (.iadd, 1) := by decide +kernel
theorem dX6_append_128 : decode cX6_append 128 = .ok (.putfield 30, 3) := by decide +kernel
theorem dX6_append_131 : decode cX6_append 131 = .ok (.iload_n 2, 1) := by decide +kernel
theorem dX6_append_132 : decode cX6_append 132 = .ok (.ireturn, 1) := by decide +kernel
theorem dX6_entryOf_0 : decode cX6_entryOf 0 = .ok (.iload_n 1, 1) := by decide +kernel
theorem dX6_entryOf_1 : decode cX6_entryOf 1 = .ok (.ifCond .lt 21, 3) := by decide +kernel
theorem dX6_entryOf_4 : decode cX6_entryOf 4 = .ok (.iload_n 1, 1) := by decide +kernel
theorem dX6_entryOf_5 : decode cX6_entryOf 5 = .ok (.aload_n 0, 1) := by decide +kernel
theorem dX6_entryOf_6 : decode cX6_entryOf 6 = .ok (.getfield 11, 3) := by decide +kernel
theorem dX6_entryOf_9 : decode cX6_entryOf 9 = .ok (.arraylength, 1) := by decide +kernel
theorem dX6_entryOf_10 : decode cX6_entryOf 10 = .ok (.if_icmp .ge 12, 3) := by decide +kernel
theorem dX6_entryOf_13 : decode cX6_entryOf 13 = .ok (.aload_n 0, 1) := by decide +kernel
theorem dX6_entryOf_14 : decode cX6_entryOf 14 = .ok (.getfield 11, 3) := by decide +kernel
theorem dX6_entryOf_17 : decode cX6_entryOf 17 = .ok (.iload_n 1, 1) := by decide +kernel
theorem dX6_entryOf_18 : decode cX6_entryOf 18 = .ok (.aaload, 1) := by decide +kernel
theorem dX6_entryOf_19 : decode cX6_entryOf 19 = .ok (.goto 4, 3) := by decide +kernel
theorem dX6_entryOf_22 : decode cX6_entryOf 22 = .ok (.aconst_null, 1) := by decide +kernel
theorem dX6_entryOf_23 : decode cX6_entryOf 23 = .ok (.areturn, 1) := by decide +kernel
set_option maxRecDepth 20000 in
theorem ggX6_rivalsOf_X11_at : GoodIn wsX6_rivalsOf wsX11_at := goodIn_ca (goodIn_r _ [4] (by decide +kernel) (by decide +kernel)) (goodIn_sub (fun _ h => List.mem_cons_of_mem _ (List.mem_append_right _ h)) (by decide +kernel))
set_option maxRecDepth 20000 in
theorem gX6_rivalsOf_X11_at_n38 : GoodIn wsX6_rivalsOf (wsX11_at) := ggX6_rivalsOf_X11_at
theorem dX6_rivalsOf_0 : decode cX6_rivalsOf 0 = .ok (.aload_n 0, 1) := by decide +kernel
theorem dX6_rivalsOf_1 : decode cX6_rivalsOf 1 = .ok (.getfield 17, 3) := by decide +kernel
theorem dX6_rivalsOf_4 : decode cX6_rivalsOf 4 = .ok (.iload_n 1, 1) := by decide +kernel
theorem dX6_rivalsOf_5 : decode cX6_rivalsOf 5 = .ok (.invokestatic 38, 3) := by decide +kernel
theorem dX6_rivalsOf_8 : decode cX6_rivalsOf 8 = .ok (.ireturn, 1) := by decide +kernel
set_option maxRecDepth 20000 in
theorem ggX6_isReachedBy_X11_at : GoodIn wsX6_isReachedBy wsX11_at := goodIn_ca (goodIn_r _ [4] (by decide +kernel) (by decide +kernel)) (goodIn_sub (fun _ h => List.mem_cons_of_mem _ (List.mem_append_right _ h)) (by decide +kernel))
set_option maxRecDepth 20000 in
theorem gX6_isReachedBy_X11_at_n38 : GoodIn wsX6_isReachedBy (wsX11_at) := ggX6_isReachedBy_X11_at
theorem dX6_isReachedBy_0 : decode cX6_isReachedBy 0 = .ok (.aload_n 0, 1) := by decide +kernel
theorem dX6_isReachedBy_1 : decode cX6_isReachedBy 1 = .ok (.getfield 21, 3) := by decide +kernel
theorem dX6_isReachedBy_4 : decode cX6_isReachedBy 4 = .ok (.iload_n 1, 1) := by decide +kernel
theorem dX6_isReachedBy_5 : decode cX6_isReachedBy 5 = .ok (.invokestatic 38, 3) := by decide +kernel
theorem dX6_isReachedBy_8 : decode cX6_isReachedBy 8 = .ok (.istore_n 3, 1) := by decide +kernel
theorem dX6_isReachedBy_9 : decode cX6_isReachedBy 9 = .ok (.iload_n 3, 1) := by decide +kernel
theorem dX6_isReachedBy_10 : decode cX6_isReachedBy 10 = .ok (.ifCond .le 12, 3) := by decide +kernel
theorem dX6_isReachedBy_13 : decode cX6_isReachedBy 13 = .ok (.iload_n 2, 1) := by decide +kernel
theorem dX6_isReachedBy_14 : decode cX6_isReachedBy 14 = .ok (.iload_n 3, 1) := by decide +kernel
theorem dX6_isReachedBy_15 : decode cX6_isReachedBy 15 = .ok (.if_icmp .lt 7, 3) := by decide +kernel
theorem dX6_isReachedBy_18 : decode cX6_isReachedBy 18 = .ok (.iconst 1, 1) := by decide +kernel
theorem dX6_isReachedBy_19 : decode cX6_isReachedBy 19 = .ok (.goto 4, 3) := by decide +kernel
theorem dX6_isReachedBy_22 : decode cX6_isReachedBy 22 = .ok (.iconst 0, 1) := by decide +kernel
theorem dX6_isReachedBy_23 : decode cX6_isReachedBy 23 = .ok (.ireturn, 1) := by decide +kernel
set_option maxRecDepth 20000 in
theorem ggX6_amountOf_X11_at : GoodIn wsX6_amountOf wsX11_at := goodIn_ca (goodIn_r _ [4] (by decide +kernel) (by decide +kernel)) (goodIn_sub (fun _ h => List.mem_cons_of_mem _ (List.mem_append_right _ h)) (by decide +kernel))
set_option maxRecDepth 20000 in
theorem gX6_amountOf_X11_at_n38 : GoodIn wsX6_amountOf (wsX11_at) := ggX6_amountOf_X11_at
theorem dX6_amountOf_0 : decode cX6_amountOf 0 = .ok (.aload_n 0, 1) := by decide +kernel
theorem dX6_amountOf_1 : decode cX6_amountOf 1 = .ok (.getfield 24, 3) := by decide +kernel
theorem dX6_amountOf_4 : decode cX6_amountOf 4 = .ok (.iload_n 1, 1) := by decide +kernel
theorem dX6_amountOf_5 : decode cX6_amountOf 5 = .ok (.invokestatic 38, 3) := by decide +kernel
theorem dX6_amountOf_8 : decode cX6_amountOf 8 = .ok (.ireturn, 1) := by decide +kernel
set_option maxRecDepth 20000 in
theorem ggX6_leftFor_X6_entryOf : GoodIn wsX6_leftFor wsX6_entryOf := goodIn_r _ [6, 7, 21, 22, 23, 24, 25, 26] (by decide +kernel) (by decide +kernel)
set_option maxRecDepth 20000 in
theorem gX6_leftFor_X6_entryOf : GoodIn wsX6_leftFor (wsV RX6 53 RX6 yX6_entryOf wsX6_entryOf) := goodIn_app (goodIn_of _ (by decide +kernel)) ggX6_leftFor_X6_entryOf
set_option maxRecDepth 20000 in
theorem ggX6_leftFor_X5_limit : GoodIn wsX6_leftFor wsX5_limit := goodIn_r _ [13, 14, 27, 28, 29, 30, 31, 32, 33, 34, 35, 36, 37, 38, 39, 40, 41, 42, 43, 44, 45, 46, 47] (by decide +kernel) (by decide +kernel)
set_option maxRecDepth 20000 in
theorem gX6_leftFor_X5_limit_u57X2 : GoodIn wsX6_leftFor (va_wsU RX6 57 RX2 "BasketOffers$Offer" ⟨"BasketOffers$Offer", "limit", "()I"⟩ yX5_limit wsX5_limit) := goodIn_app (goodIn_of _ (by decide +kernel)) ggX6_leftFor_X5_limit
set_option maxRecDepth 20000 in
theorem gX6_leftFor_X5_limit_u57X3 : GoodIn wsX6_leftFor (va_wsU RX6 57 RX3 "BasketOffers$Offer" ⟨"BasketOffers$Offer", "limit", "()I"⟩ yX5_limit wsX5_limit) := goodIn_app (goodIn_of _ (by decide +kernel)) ggX6_leftFor_X5_limit
set_option maxRecDepth 20000 in
theorem gX6_leftFor_X5_limit_u57X7 : GoodIn wsX6_leftFor (va_wsU RX6 57 RX7 "BasketOffers$Offer" ⟨"BasketOffers$Offer", "limit", "()I"⟩ yX5_limit wsX5_limit) := goodIn_app (goodIn_of _ (by decide +kernel)) ggX6_leftFor_X5_limit
set_option maxRecDepth 20000 in
theorem gX6_leftFor_X5_limit_u57X9 : GoodIn wsX6_leftFor (va_wsU RX6 57 RX9 "BasketOffers$Offer" ⟨"BasketOffers$Offer", "limit", "()I"⟩ yX5_limit wsX5_limit) := goodIn_app (goodIn_of _ (by decide +kernel)) ggX6_leftFor_X5_limit
set_option maxRecDepth 20000 in
theorem ggX6_leftFor_X11_at : GoodIn wsX6_leftFor wsX11_at := goodIn_ca (goodIn_r _ [20] (by decide +kernel) (by decide +kernel)) (goodIn_sub (fun _ h => List.mem_cons_of_mem _ (List.mem_append_right _ h)) (by decide +kernel))
set_option maxRecDepth 20000 in
theorem gX6_leftFor_X11_at_n38 : GoodIn wsX6_leftFor (wsX11_at) := ggX6_leftFor_X11_at
theorem dX6_leftFor_0 : decode cX6_leftFor 0 = .ok (.aload_n 0, 1) := by decide +kernel
theorem dX6_leftFor_1 : decode cX6_leftFor 1 = .ok (.iload_n 2, 1) := by decide +kernel
theorem dX6_leftFor_2 : decode cX6_leftFor 2 = .ok (.invokevirtual 53, 3) := by decide +kernel
theorem dX6_leftFor_5 : decode cX6_leftFor 5 = .ok (.astore_n 3, 1) := by decide +kernel
theorem dX6_leftFor_6 : decode cX6_leftFor 6 = .ok (.aload_n 3, 1) := by decide +kernel
theorem dX6_leftFor_7 : decode cX6_leftFor 7 = .ok (.ifnonnull 7, 3) := by decide +kernel
theorem dX6_leftFor_10 : decode cX6_leftFor 10 = .ok (.iconst 0, 1) := by decide +kernel
theorem dX6_leftFor_11 : decode cX6_leftFor 11 = .ok (.goto 21, 3) := by decide +kernel
theorem dX6_leftFor_14 : decode cX6_leftFor 14 = .ok (.aload_n 3, 1) := by decide +kernel
theorem dX6_leftFor_15 : decode cX6_leftFor 15 = .ok (.invokevirtual 57, 3) := by decide +kernel
theorem dX6_leftFor_18 : decode cX6_leftFor 18 = .ok (.aload_n 0, 1) := by decide +kernel
theorem dX6_leftFor_19 : decode cX6_leftFor 19 = .ok (.getfield 27, 3) := by decide +kernel
theorem dX6_leftFor_22 : decode cX6_leftFor 22 = .ok (.iload_n 1, 1) := by decide +kernel
theorem dX6_leftFor_23 : decode cX6_leftFor 23 = .ok (.bipush 6, 2) := by decide +kernel
theorem dX6_leftFor_25 : decode cX6_leftFor 25 = .ok (.imul, 1) := by decide +kernel
theorem dX6_leftFor_26 : decode cX6_leftFor 26 = .ok (.iload_n 2, 1) := by decide +kernel
theorem dX6_leftFor_27 : decode cX6_leftFor 27 = .ok (.iadd, 1) := by decide +kernel
theorem dX6_leftFor_28 : decode cX6_leftFor 28 = .ok (.invokestatic 38, 3) := by decide +kernel
theorem dX6_leftFor_31 : decode cX6_leftFor 31 = .ok (.isub, 1) := by decide +kernel
theorem dX6_leftFor_32 : decode cX6_leftFor 32 = .ok (.ireturn, 1) := by decide +kernel
set_option maxRecDepth 20000 in
theorem ggX6_countUses_X11_at : GoodIn wsX6_countUses wsX11_at := goodIn_ca (goodIn_r _ [4] (by decide +kernel) (by decide +kernel)) (goodIn_sub (fun _ h => List.mem_cons_of_mem _ (List.mem_append_right _ h)) (by decide +kernel))
set_option maxRecDepth 20000 in
theorem gX6_countUses_X11_at_n38 : GoodIn wsX6_countUses (wsX11_at) := ggX6_countUses_X11_at
set_option maxRecDepth 20000 in
theorem ggX6_countUses_X11_setAt : GoodIn wsX6_countUses wsX11_setAt := goodIn_ca (goodIn_r _ [6] (by decide +kernel) (by decide +kernel)) (goodIn_sub (fun _ h => List.mem_cons_of_mem _ (List.mem_append_right _ h)) (by decide +kernel))
set_option maxRecDepth 20000 in
theorem gX6_countUses_X11_setAt_n42 : GoodIn wsX6_countUses (wsX11_setAt) := ggX6_countUses_X11_setAt
theorem dX6_countUses_0 : decode cX6_countUses 0 = .ok (.iload_n 1, 1) := by decide +kernel
theorem dX6_countUses_1 : decode cX6_countUses 1 = .ok (.bipush 6, 2) := by decide +kernel
theorem dX6_countUses_3 : decode cX6_countUses 3 = .ok (.imul, 1) := by decide +kernel
theorem dX6_countUses_4 : decode cX6_countUses 4 = .ok (.iload_n 2, 1) := by decide +kernel
theorem dX6_countUses_5 : decode cX6_countUses 5 = .ok (.iadd, 1) := by decide +kernel
theorem dX6_countUses_6 : decode cX6_countUses 6 = .ok (.istore 4, 2) := by decide +kernel
theorem dX6_countUses_8 : decode cX6_countUses 8 = .ok (.aload_n 0, 1) := by decide +kernel
theorem dX6_countUses_9 : decode cX6_countUses 9 = .ok (.getfield 27, 3) := by decide +kernel
theorem dX6_countUses_12 : decode cX6_countUses 12 = .ok (.iload 4, 2) := by decide +kernel
theorem dX6_countUses_14 : decode cX6_countUses 14 = .ok (.aload_n 0, 1) := by decide +kernel
theorem dX6_countUses_15 : decode cX6_countUses 15 = .ok (.getfield 27, 3) := by decide +kernel
theorem dX6_countUses_18 : decode cX6_countUses 18 = .ok (.iload 4, 2) := by decide +kernel
theorem dX6_countUses_20 : decode cX6_countUses 20 = .ok (.invokestatic 38, 3) := by decide +kernel
theorem dX6_countUses_23 : decode cX6_countUses 23 = .ok (.iload_n 3, 1) := by decide +kernel
theorem dX6_countUses_24 : decode cX6_countUses 24 = .ok (.iadd, 1) := by decide +kernel
theorem dX6_countUses_25 : decode cX6_countUses 25 = .ok (.invokestatic 42, 3) := by decide +kernel
theorem dX6_countUses_28 : decode cX6_countUses 28 = .ok (.return_, 1) := by decide +kernel
set_option maxRecDepth 20000 in
theorem ggX7_init_X5_init : GoodIn wsX7_init wsX5_init := goodIn_r _ [6, 7, 8, 9, 10, 11, 16, 17, 18, 19, 20, 21, 22, 23, 24, 25, 26, 27, 28, 12, 13, 14, 15, 29, 30, 31, 32] (by decide +kernel) (by decide +kernel)
set_option maxRecDepth 20000 in
theorem gX7_init_X5_init : GoodIn wsX7_init (wsX5_init) := ggX7_init_X5_init
theorem dX7_init_0 : decode cX7_init 0 = .ok (.aload_n 0, 1) := by decide +kernel
theorem dX7_init_1 : decode cX7_init 1 = .ok (.iload_n 3, 1) := by decide +kernel
theorem dX7_init_2 : decode cX7_init 2 = .ok (.iload 4, 2) := by decide +kernel
theorem dX7_init_4 : decode cX7_init 4 = .ok (.invokespecial 3, 3) := by decide +kernel
theorem dX7_init_7 : decode cX7_init 7 = .ok (.aload_n 0, 1) := by decide +kernel
theorem dX7_init_8 : decode cX7_init 8 = .ok (.iload_n 1, 1) := by decide +kernel
theorem dX7_init_9 : decode cX7_init 9 = .ok (.putfield 9, 3) := by decide +kernel
theorem dX7_init_12 : decode cX7_init 12 = .ok (.aload_n 0, 1) := by decide +kernel
theorem dX7_init_13 : decode cX7_init 13 = .ok (.iload_n 2, 1) := by decide +kernel
theorem dX7_init_14 : decode cX7_init 14 = .ok (.putfield 15, 3) := by decide +kernel
theorem dX7_init_17 : decode cX7_init 17 = .ok (.return_, 1) := by decide +kernel
theorem dX7_itemsTaken_0 : decode cX7_itemsTaken 0 = .ok (.iconst 1, 1) := by decide +kernel
theorem dX7_itemsTaken_1 : decode cX7_itemsTaken 1 = .ok (.ireturn, 1) := by decide +kernel
set_option maxRecDepth 20000 in
theorem ggX7_discountOn_X0_countOf : GoodIn wsX7_discountOn wsX0_countOf := goodIn_ca (goodIn_r _ [7, 8, 9, 10, 11, 12, 13, 14, 24, 25, 26, 27, 28] (by decide +kernel) (by decide +kernel)) (goodIn_sub (fun _ h => List.mem_cons_of_mem _ (List.mem_append_right _ h)) (by decide +kernel))
set_option maxRecDepth 20000 in
theorem gX7_discountOn_X0_countOf : GoodIn wsX7_discountOn (wsV RX7 18 RX0 yX0_countOf wsX0_countOf) := goodIn_app (goodIn_of _ (by decide +kernel)) ggX7_discountOn_X0_countOf
set_option maxRecDepth 20000 in
theorem ggX7_discountOn_X0_priceOf : GoodIn wsX7_discountOn wsX0_priceOf := goodIn_ca (goodIn_r _ [18, 8, 19, 10, 11, 12, 13, 14, 24, 25, 26, 27, 28] (by decide +kernel) (by decide +kernel)) (goodIn_sub (fun _ h => List.mem_cons_of_mem _ (List.mem_append_right _ h)) (by decide +kernel))
set_option maxRecDepth 20000 in
theorem gX7_discountOn_X0_priceOf : GoodIn wsX7_discountOn (wsV RX7 24 RX0 yX0_priceOf wsX0_priceOf) := goodIn_app (goodIn_of _ (by decide +kernel)) ggX7_discountOn_X0_priceOf
theorem dX7_discountOn_0 : decode cX7_discountOn 0 = .ok (.aload_n 1, 1) := by decide +kernel
theorem dX7_discountOn_1 : decode cX7_discountOn 1 = .ok (.iload_n 2, 1) := by decide +kernel
theorem dX7_discountOn_2 : decode cX7_discountOn 2 = .ok (.aload_n 0, 1) := by decide +kernel
theorem dX7_discountOn_3 : decode cX7_discountOn 3 = .ok (.getfield 9, 3) := by decide +kernel
theorem dX7_discountOn_6 : decode cX7_discountOn 6 = .ok (.invokevirtual 18, 3) := by decide +kernel
theorem dX7_discountOn_9 : decode cX7_discountOn 9 = .ok (.iconst 1, 1) := by decide +kernel
theorem dX7_discountOn_10 : decode cX7_discountOn 10 = .ok (.if_icmp .ne 19, 3) := by decide +kernel
theorem dX7_discountOn_13 : decode cX7_discountOn 13 = .ok (.aload_n 1, 1) := by decide +kernel
theorem dX7_discountOn_14 : decode cX7_discountOn 14 = .ok (.iload_n 2, 1) := by decide +kernel
theorem dX7_discountOn_15 : decode cX7_discountOn 15 = .ok (.invokevirtual 24, 3) := by decide +kernel
theorem dX7_discountOn_18 : decode cX7_discountOn 18 = .ok (.aload_n 0, 1) := by decide +kernel
theorem dX7_discountOn_19 : decode cX7_discountOn 19 = .ok (.getfield 15, 3) := by decide +kernel
theorem dX7_discountOn_22 : decode cX7_discountOn 22 = .ok (.imul, 1) := by decide +kernel
theorem dX7_discountOn_23 : decode cX7_discountOn 23 = .ok (.bipush 100, 2) := by decide +kernel
theorem dX7_discountOn_25 : decode cX7_discountOn 25 = .ok (.idiv, 1) := by decide +kernel
theorem dX7_discountOn_26 : decode cX7_discountOn 26 = .ok (.goto 4, 3) := by decide +kernel
theorem dX7_discountOn_29 : decode cX7_discountOn 29 = .ok (.iconst (-1), 1) := by decide +kernel
theorem dX7_discountOn_30 : decode cX7_discountOn 30 = .ok (.ireturn, 1) := by decide +kernel
set_option maxRecDepth 20000 in
theorem ggX8_init_X10_init : GoodIn wsX8_init wsX10_init := goodIn_r _ [17, 18, 2, 3, 8, 19, 20, 21, 22, 23, 24, 25, 26, 27] (by decide +kernel) (by decide +kernel)
set_option maxRecDepth 20000 in
theorem gX8_init_X10_init_n11 : GoodIn wsX8_init (wsX10_init) := ggX8_init_X10_init
theorem dX8_init_0 : decode cX8_init 0 = .ok (.aload_n 0, 1) := by decide +kernel
theorem dX8_init_1 : decode cX8_init 1 = .ok (.invokespecial 3, 3) := by decide +kernel
theorem dX8_init_4 : decode cX8_init 4 = .ok (.aload_n 0, 1) := by decide +kernel
theorem dX8_init_5 : decode cX8_init 5 = .ok (.new 9, 3) := by decide +kernel
theorem dX8_init_8 : decode cX8_init 8 = .ok (.dup, 1) := by decide +kernel
theorem dX8_init_9 : decode cX8_init 9 = .ok (.invokespecial 11, 3) := by decide +kernel
theorem dX8_init_12 : decode cX8_init 12 = .ok (.putfield 12, 3) := by decide +kernel
theorem dX8_init_15 : decode cX8_init 15 = .ok (.aload_n 0, 1) := by decide +kernel
theorem dX8_init_16 : decode cX8_init 16 = .ok (.bipush 6, 2) := by decide +kernel
theorem dX8_init_18 : decode cX8_init 18 = .ok (.newarray .int, 2) := by decide +kernel
theorem dX8_init_20 : decode cX8_init 20 = .ok (.putfield 18, 3) := by decide +kernel
theorem dX8_init_23 : decode cX8_init 23 = .ok (.aload_n 0, 1) := by decide +kernel
theorem dX8_init_24 : decode cX8_init 24 = .ok (.bipush 6, 2) := by decide +kernel
theorem dX8_init_26 : decode cX8_init 26 = .ok (.newarray .int, 2) := by decide +kernel
theorem dX8_init_28 : decode cX8_init 28 = .ok (.putfield 22, 3) := by decide +kernel
theorem dX8_init_31 : decode cX8_init 31 = .ok (.aload_n 0, 1) := by decide +kernel
theorem dX8_init_32 : decode cX8_init 32 = .ok (.bipush 7, 2) := by decide +kernel
theorem dX8_init_34 : decode cX8_init 34 = .ok (.newarray .int, 2) := by decide +kernel
theorem dX8_init_36 : decode cX8_init 36 = .ok (.putfield 25, 3) := by decide +kernel
theorem dX8_init_39 : decode cX8_init 39 = .ok (.aload_n 0, 1) := by decide +kernel
theorem dX8_init_40 : decode cX8_init 40 = .ok (.bipush 7, 2) := by decide +kernel
theorem dX8_init_42 : decode cX8_init 42 = .ok (.newarray .int, 2) := by decide +kernel
theorem dX8_init_44 : decode cX8_init 44 = .ok (.putfield 28, 3) := by decide +kernel
theorem dX8_init_47 : decode cX8_init 47 = .ok (.aload_n 0, 1) := by decide +kernel
theorem dX8_init_48 : decode cX8_init 48 = .ok (.bipush 7, 2) := by decide +kernel
theorem dX8_init_50 : decode cX8_init 50 = .ok (.newarray .int, 2) := by decide +kernel
theorem dX8_init_52 : decode cX8_init 52 = .ok (.putfield 31, 3) := by decide +kernel
theorem dX8_init_55 : decode cX8_init 55 = .ok (.aload_n 0, 1) := by decide +kernel
theorem dX8_init_56 : decode cX8_init 56 = .ok (.aload_n 1, 1) := by decide +kernel
theorem dX8_init_57 : decode cX8_init 57 = .ok (.putfield 34, 3) := by decide +kernel
theorem dX8_init_60 : decode cX8_init 60 = .ok (.aload_n 0, 1) := by decide +kernel
theorem dX8_init_61 : decode cX8_init 61 = .ok (.aload_n 2, 1) := by decide +kernel
theorem dX8_init_62 : decode cX8_init 62 = .ok (.putfield 38, 3) := by decide +kernel
theorem dX8_init_65 : decode cX8_init 65 = .ok (.return_, 1) := by decide +kernel
set_option maxRecDepth 20000 in
theorem ggX8_run_X10_fill : GoodIn wsX8_run wsX10_fill := goodIn_ca (goodIn_r _ [12, 13, 14, 15, 16, 17, 18, 19, 20, 21, 22, 23, 24, 25, 26, 27, 28, 29, 30, 31, 32, 33, 34, 35, 36, 37, 38, 39, 40, 41, 42, 43, 44, 45, 46, 47, 48, 49, 50, 51, 52, 53, 54, 55, 11, 56, 57, 58, 59, 60, 61, 62, 63, 64, 65, 66, 67, 68, 69, 70, 71, 72, 73, 74, 75, 76, 77, 78, 79, 80, 81, 82, 83, 84, 85, 86, 87, 88, 89, 90, 91, 92, 93, 94, 95, 96, 97, 98, 99, 100, 101, 102, 103, 104, 105, 106, 107, 108, 109, 110, 111, 112, 113, 114, 115, 116, 117, 118, 119, 120, 121, 122, 123, 124, 125, 126, 127, 128, 129, 130, 131, 132, 133, 134, 135, 136, 137, 138, 139, 140, 141, 142, 143, 244, 245, 246, 247, 248, 249, 250, 251, 252, 253, 254, 255, 256, 257, 258, 259, 260, 261, 262, 263, 264, 265, 266, 267, 268, 269, 270, 271, 272, 273, 274, 275, 276, 277, 278, 279, 280] (by decide +kernel) (by decide +kernel)) (goodIn_sub (fun _ h => List.mem_cons_of_mem _ (List.mem_append_left _ (List.mem_append_right _ h))) (by decide +kernel))
set_option maxRecDepth 20000 in
theorem gX8_run_X10_fill : GoodIn wsX8_run (wsV RX8 42 RX10 yX10_fill wsX10_fill) := goodIn_app (goodIn_of _ (by decide +kernel)) ggX8_run_X10_fill
set_option maxRecDepth 20000 in
theorem ggX8_run_X6_leftFor : GoodIn wsX8_run wsX6_leftFor := goodIn_ca (goodIn_r _ [33, 34, 35, 36, 37, 27, 38, 39, 40, 41, 42, 43, 44, 45, 46, 47, 48, 49, 50, 22, 51, 254, 255, 256, 257, 258, 259, 260, 261, 262, 263, 264, 265, 266, 267, 268, 269, 270, 271, 272, 273, 274, 275, 276, 277, 278, 279, 280] (by decide +kernel) (by decide +kernel)) (goodIn_sub (fun _ h => List.mem_cons_of_mem _ (List.mem_append_left _ (List.mem_append_right _ h))) (by decide +kernel))
set_option maxRecDepth 20000 in
theorem gX8_run_X6_leftFor : GoodIn wsX8_run (wsV RX8 46 RX6 yX6_leftFor wsX6_leftFor) := goodIn_app (goodIn_of _ (by decide +kernel)) ggX8_run_X6_leftFor
set_option maxRecDepth 20000 in
theorem ggX8_run_X11_setAt : GoodIn wsX8_run wsX11_setAt := goodIn_ca (goodIn_r _ [23] (by decide +kernel) (by decide +kernel)) (goodIn_sub (fun _ h => List.mem_cons_of_mem _ (List.mem_append_left _ (List.mem_append_right _ h))) (by decide +kernel))
set_option maxRecDepth 20000 in
theorem gX8_run_X11_setAt_n52 : GoodIn wsX8_run (wsX11_setAt) := ggX8_run_X11_setAt
set_option maxRecDepth 20000 in
theorem ggX8_run_X0_mask : GoodIn wsX8_run wsX0_mask := goodIn_r _ [62, 20, 57, 22, 58, 249, 250, 251, 252, 253] (by decide +kernel) (by decide +kernel)
set_option maxRecDepth 20000 in
theorem gX8_run_X0_mask : GoodIn wsX8_run (wsV RX8 56 RX0 yX0_mask wsX0_mask) := goodIn_app (goodIn_of _ (by decide +kernel)) ggX8_run_X0_mask
set_option maxRecDepth 20000 in
theorem ggX8_run_X0_priceOf : GoodIn wsX8_run wsX0_priceOf := goodIn_ca (goodIn_r _ [112, 20, 113, 107, 22, 108, 50, 51, 249, 250, 251, 252, 253] (by decide +kernel) (by decide +kernel)) (goodIn_sub (fun _ h => List.mem_cons_of_mem _ (List.mem_append_left _ (List.mem_append_right _ h))) (by decide +kernel))
set_option maxRecDepth 20000 in
theorem gX8_run_X0_priceOf : GoodIn wsX8_run (wsV RX8 62 RX0 yX0_priceOf wsX0_priceOf) := goodIn_app (goodIn_of _ (by decide +kernel)) ggX8_run_X0_priceOf
set_option maxRecDepth 20000 in
theorem ggX8_run_X8_sortByAmount : GoodIn wsX8_run wsX8_sortByAmount := goodIn_ca (goodIn_r _ [151, 3, 152, 50, 22, 51, 153, 154, 155, 27, 156, 157, 21, 23, 232, 233, 234, 235, 236, 237, 238, 239, 240, 241, 242, 243, 254, 255, 256, 257, 258, 259] (by decide +kernel) (by decide +kernel)) (goodIn_sub (fun _ h => List.mem_cons_of_mem _ (List.mem_append_left _ (List.mem_append_right _ h))) (by decide +kernel))
set_option maxRecDepth 20000 in
theorem gX8_run_X8_sortByAmount : GoodIn wsX8_run (wsV RX8 70 RX8 yX8_sortByAmount wsX8_sortByAmount) := goodIn_app (goodIn_of _ (by decide +kernel)) ggX8_run_X8_sortByAmount
set_option maxRecDepth 20000 in
theorem ggX8_run_X8_setShares : GoodIn wsX8_run wsX8_setShares := goodIn_ca (goodIn_ca (goodIn_r _ [161, 162, 1, 163, 164, 126, 165, 21, 22, 23, 166, 167, 168, 11, 169, 13, 170, 171, 172, 173, 142, 50, 51, 174, 64, 65, 66, 67, 68, 69, 175, 176, 177, 178, 143, 107, 108, 232, 233, 234, 235, 236, 237, 238, 239, 240, 241, 242, 243, 244, 245, 246, 247, 248] (by decide +kernel) (by decide +kernel)) (goodIn_sub (fun _ h => List.mem_cons_of_mem _ (List.mem_append_right _ h)) (by decide +kernel))) (goodIn_sub (fun _ h => List.mem_cons_of_mem _ (List.mem_append_left _ (List.mem_append_right _ h))) (by decide +kernel))
set_option maxRecDepth 20000 in
theorem gX8_run_X8_setShares : GoodIn wsX8_run (wsV RX8 73 RX8 yX8_setShares wsX8_setShares) := goodIn_app (goodIn_of _ (by decide +kernel)) ggX8_run_X8_setShares
set_option maxRecDepth 20000 in
theorem ggX8_run_X8_decide : GoodIn wsX8_run wsX8_decide := goodIn_ca (goodIn_r _ [182, 7, 1, 183, 184, 185, 186, 150, 187, 152, 50, 22, 51, 188, 189, 190, 191, 4, 3, 5, 192, 193, 194, 27, 195, 196, 197, 198, 199, 200, 201, 202, 203, 204, 205, 153, 154, 155, 156, 157, 206, 207, 208, 209, 162, 107, 108, 210, 211, 212, 213, 214, 215, 21, 23, 216, 217, 218, 11, 219, 14, 220, 221, 222, 223, 224, 225, 226, 227, 141, 170, 171, 172, 173, 142, 228, 229, 230, 231, 175, 176, 177, 178, 143, 179, 180, 181, 57, 58, 232, 233, 234, 235, 236, 237, 238, 239, 240, 241, 242, 243, 254, 255, 256, 257, 258, 259, 244, 245, 246, 247, 248] (by decide +kernel) (by decide +kernel)) (goodIn_sub (fun _ h => List.mem_cons_of_mem _ (List.mem_append_left _ (List.mem_append_right _ h))) (by decide +kernel))
set_option maxRecDepth 20000 in
theorem gX8_run_X8_decide : GoodIn wsX8_run (wsV RX8 82 RX8 yX8_decide wsX8_decide) := goodIn_app (goodIn_of _ (by decide +kernel)) ggX8_run_X8_decide
theorem dX8_run_0 : decode cX8_run 0 = .ok (.aload_n 0, 1) := by decide +kernel
theorem dX8_run_1 : decode cX8_run 1 = .ok (.getfield 12, 3) := by decide +kernel
theorem dX8_run_4 : decode cX8_run 4 = .ok (.aload_n 0, 1) := by decide +kernel
theorem dX8_run_5 : decode cX8_run 5 = .ok (.getfield 34, 3) := by decide +kernel
theorem dX8_run_8 : decode cX8_run 8 = .ok (.aload_n 0, 1) := by decide +kernel
theorem dX8_run_9 : decode cX8_run 9 = .ok (.getfield 38, 3) := by decide +kernel
theorem dX8_run_12 : decode cX8_run 12 = .ok (.iload_n 1, 1) := by decide +kernel
theorem dX8_run_13 : decode cX8_run 13 = .ok (.invokevirtual 42, 3) := by decide +kernel
theorem dX8_run_16 : decode cX8_run 16 = .ok (.iconst 0, 1) := by decide +kernel
theorem dX8_run_17 : decode cX8_run 17 = .ok (.istore_n 2, 1) := by decide +kernel
theorem dX8_run_18 : decode cX8_run 18 = .ok (.iload_n 2, 1) := by decide +kernel
theorem dX8_run_19 : decode cX8_run 19 = .ok (.bipush 6, 2) := by decide +kernel
theorem dX8_run_21 : decode cX8_run 21 = .ok (.if_icmp .ge 26, 3) := by decide +kernel
theorem dX8_run_24 : decode cX8_run 24 = .ok (.aload_n 0, 1) := by decide +kernel
theorem dX8_run_25 : decode cX8_run 25 = .ok (.getfield 18, 3) := by decide +kernel
theorem dX8_run_28 : decode cX8_run 28 = .ok (.iload_n 2, 1) := by decide +kernel
theorem dX8_run_29 : decode cX8_run 29 = .ok (.aload_n 0, 1) := by decide +kernel
theorem dX8_run_30 : decode cX8_run 30 = .ok (.getfield 38, 3) := by decide +kernel
theorem dX8_run_33 : decode cX8_run 33 = .ok (.iload_n 1, 1) := by decide +kernel
theorem dX8_run_34 : decode cX8_run 34 = .ok (.iload_n 2, 1) := by decide +kernel
theorem dX8_run_35 : decode cX8_run 35 = .ok (.invokevirtual 46, 3) := by decide +kernel
theorem dX8_run_38 : decode cX8_run 38 = .ok (.invokestatic 52, 3) := by decide +kernel
theorem dX8_run_41 : decode cX8_run 41 = .ok (.iinc 2 1, 3) := by decide +kernel
theorem dX8_run_44 : decode cX8_run 44 = .ok (.goto (-26), 3) := by decide +kernel
theorem dX8_run_47 : decode cX8_run 47 = .ok (.aload_n 0, 1) := by decide +kernel
theorem dX8_run_48 : decode cX8_run 48 = .ok (.aload_n 0, 1) := by decide +kernel
theorem dX8_run_49 : decode cX8_run 49 = .ok (.getfield 34, 3) := by decide +kernel
theorem dX8_run_52 : decode cX8_run 52 = .ok (.aload_n 0, 1) := by decide +kernel
theorem dX8_run_53 : decode cX8_run 53 = .ok (.getfield 34, 3) := by decide +kernel
theorem dX8_run_56 : decode cX8_run 56 = .ok (.invokevirtual 56, 3) := by decide +kernel
theorem dX8_run_59 : decode cX8_run 59 = .ok (.invokevirtual 62, 3) := by decide +kernel
theorem dX8_run_62 : decode cX8_run 62 = .ok (.putfield 66, 3) := by decide +kernel
theorem dX8_run_65 : decode cX8_run 65 = .ok (.aload_n 0, 1) := by decide +kernel
theorem dX8_run_66 : decode cX8_run 66 = .ok (.invokevirtual 70, 3) := by decide +kernel
theorem dX8_run_69 : decode cX8_run 69 = .ok (.aload_n 0, 1) := by decide +kernel
theorem dX8_run_70 : decode cX8_run 70 = .ok (.invokevirtual 73, 3) := by decide +kernel
theorem dX8_run_73 : decode cX8_run 73 = .ok (.aload_n 0, 1) := by decide +kernel
theorem dX8_run_74 : decode cX8_run 74 = .ok (.iconst (-1), 1) := by decide +kernel
theorem dX8_run_75 : decode cX8_run 75 = .ok (.putfield 76, 3) := by decide +kernel
theorem dX8_run_78 : decode cX8_run 78 = .ok (.aload_n 0, 1) := by decide +kernel
theorem dX8_run_79 : decode cX8_run 79 = .ok (.iconst (-1), 1) := by decide +kernel
theorem dX8_run_80 : decode cX8_run 80 = .ok (.putfield 79, 3) := by decide +kernel
theorem dX8_run_83 : decode cX8_run 83 = .ok (.aload_n 0, 1) := by decide +kernel
theorem dX8_run_84 : decode cX8_run 84 = .ok (.iconst 0, 1) := by decide +kernel
theorem dX8_run_85 : decode cX8_run 85 = .ok (.aload_n 0, 1) := by decide +kernel
theorem dX8_run_86 : decode cX8_run 86 = .ok (.getfield 34, 3) := by decide +kernel
theorem dX8_run_89 : decode cX8_run 89 = .ok (.invokevirtual 56, 3) := by decide +kernel
theorem dX8_run_92 : decode cX8_run 92 = .ok (.iconst 0, 1) := by decide +kernel
theorem dX8_run_93 : decode cX8_run 93 = .ok (.iconst 0, 1) := by decide +kernel
theorem dX8_run_94 : decode cX8_run 94 = .ok (.invokevirtual 82, 3) := by decide +kernel
theorem dX8_run_97 : decode cX8_run 97 = .ok (.return_, 1) := by decide +kernel
set_option maxRecDepth 20000 in
theorem ggX8_sortByAmount_X11_at : GoodIn wsX8_sortByAmount wsX11_at := goodIn_ca (goodIn_r _ [5] (by decide +kernel) (by decide +kernel)) (goodIn_sub (fun _ h => List.mem_cons_of_mem _ (List.mem_append_right _ h)) (by decide +kernel))
set_option maxRecDepth 20000 in
theorem gX8_sortByAmount_X11_at_n86 : GoodIn wsX8_sortByAmount (wsX11_at) := ggX8_sortByAmount_X11_at
set_option maxRecDepth 20000 in
theorem ggX8_sortByAmount_X6_amountOf : GoodIn wsX8_sortByAmount wsX6_amountOf := goodIn_ca (goodIn_r _ [10, 11, 3, 4, 5, 26, 27, 28, 29, 30, 31] (by decide +kernel) (by decide +kernel)) (goodIn_sub (fun _ h => List.mem_cons_of_mem _ (List.mem_append_right _ h)) (by decide +kernel))
set_option maxRecDepth 20000 in
theorem gX8_sortByAmount_X6_amountOf : GoodIn wsX8_sortByAmount (wsV RX8 90 RX6 yX6_amountOf wsX6_amountOf) := goodIn_app (goodIn_of _ (by decide +kernel)) ggX8_sortByAmount_X6_amountOf
set_option maxRecDepth 20000 in
theorem ggX8_sortByAmount_X11_setAt : GoodIn wsX8_sortByAmount wsX11_setAt := goodIn_ca (goodIn_r _ [13] (by decide +kernel) (by decide +kernel)) (goodIn_sub (fun _ h => List.mem_cons_of_mem _ (List.mem_append_right _ h)) (by decide +kernel))
set_option maxRecDepth 20000 in
theorem gX8_sortByAmount_X11_setAt_n52 : GoodIn wsX8_sortByAmount (wsX11_setAt) := ggX8_sortByAmount_X11_setAt
theorem dX8_sortByAmount_0 : decode cX8_sortByAmount 0 = .ok (.iconst 0, 1) := by decide +kernel
theorem dX8_sortByAmount_1 : decode cX8_sortByAmount 1 = .ok (.istore_n 1, 1) := by decide +kernel
theorem dX8_sortByAmount_2 : decode cX8_sortByAmount 2 = .ok (.iload_n 1, 1) := by decide +kernel
theorem dX8_sortByAmount_3 : decode cX8_sortByAmount 3 = .ok (.bipush 6, 2) := by decide +kernel
theorem dX8_sortByAmount_5 : decode cX8_sortByAmount 5 = .ok (.if_icmp .ge 76, 3) := by decide +kernel
theorem dX8_sortByAmount_8 : decode cX8_sortByAmount 8 = .ok (.iload_n 1, 1) := by decide +kernel
theorem dX8_sortByAmount_9 : decode cX8_sortByAmount 9 = .ok (.istore_n 2, 1) := by decide +kernel
theorem dX8_sortByAmount_10 : decode cX8_sortByAmount 10 = .ok (.iload_n 2, 1) := by decide +kernel
theorem dX8_sortByAmount_11 : decode cX8_sortByAmount 11 = .ok (.ifCond .le 55, 3) := by decide +kernel
theorem dX8_sortByAmount_14 : decode cX8_sortByAmount 14 = .ok (.aload_n 0, 1) := by decide +kernel
theorem dX8_sortByAmount_15 : decode cX8_sortByAmount 15 = .ok (.getfield 38, 3) := by decide +kernel
theorem dX8_sortByAmount_18 : decode cX8_sortByAmount 18 = .ok (.aload_n 0, 1) := by decide +kernel
theorem dX8_sortByAmount_19 : decode cX8_sortByAmount 19 = .ok (.getfield 22, 3) := by decide +kernel
theorem dX8_sortByAmount_22 : decode cX8_sortByAmount 22 = .ok (.iload_n 2, 1) := by decide +kernel
theorem dX8_sortByAmount_23 : decode cX8_sortByAmount 23 = .ok (.iconst 1, 1) := by decide +kernel
theorem dX8_sortByAmount_24 : decode cX8_sortByAmount 24 = .ok (.isub, 1) := by decide +kernel
theorem dX8_sortByAmount_25 : decode cX8_sortByAmount 25 = .ok (.invokestatic 86, 3) := by decide +kernel
theorem dX8_sortByAmount_28 : decode cX8_sortByAmount 28 = .ok (.invokevirtual 90, 3) := by decide +kernel
theorem dX8_sortByAmount_31 : decode cX8_sortByAmount 31 = .ok (.aload_n 0, 1) := by decide +kernel
theorem dX8_sortByAmount_32 : decode cX8_sortByAmount 32 = .ok (.getfield 38, 3) := by decide +kernel
theorem dX8_sortByAmount_35 : decode cX8_sortByAmount 35 = .ok (.iload_n 1, 1) := by decide +kernel
theorem dX8_sortByAmount_36 : decode cX8_sortByAmount 36 = .ok (.invokevirtual 90, 3) := by decide +kernel
theorem dX8_sortByAmount_39 : decode cX8_sortByAmount 39 = .ok (.if_icmp .ge 27, 3) := by decide +kernel
theorem dX8_sortByAmount_42 : decode cX8_sortByAmount 42 = .ok (.aload_n 0, 1) := by decide +kernel
theorem dX8_sortByAmount_43 : decode cX8_sortByAmount 43 = .ok (.getfield 22, 3) := by decide +kernel
theorem dX8_sortByAmount_46 : decode cX8_sortByAmount 46 = .ok (.iload_n 2, 1) := by decide +kernel
theorem dX8_sortByAmount_47 : decode cX8_sortByAmount 47 = .ok (.aload_n 0, 1) := by decide +kernel
theorem dX8_sortByAmount_48 : decode cX8_sortByAmount 48 = .ok (.getfield 22, 3) := by decide +kernel
theorem dX8_sortByAmount_51 : decode cX8_sortByAmount 51 = .ok (.iload_n 2, 1) := by decide +kernel
theorem dX8_sortByAmount_52 : decode cX8_sortByAmount 52 = .ok (.iconst 1, 1) := by decide +kernel
theorem dX8_sortByAmount_53 : decode cX8_sortByAmount 53 = .ok (.isub, 1) := by decide +kernel
theorem dX8_sortByAmount_54 : decode cX8_sortByAmount 54 = .ok (.invokestatic 86, 3) := by decide +kernel
theorem dX8_sortByAmount_57 : decode cX8_sortByAmount 57 = .ok (.invokestatic 52, 3) := by decide +kernel
theorem dX8_sortByAmount_60 : decode cX8_sortByAmount 60 = .ok (.iinc 2 (-1), 3) := by decide +kernel
theorem dX8_sortByAmount_63 : decode cX8_sortByAmount 63 = .ok (.goto (-53), 3) := by decide +kernel
theorem dX8_sortByAmount_66 : decode cX8_sortByAmount 66 = .ok (.aload_n 0, 1) := by decide +kernel
theorem dX8_sortByAmount_67 : decode cX8_sortByAmount 67 = .ok (.getfield 22, 3) := by decide +kernel
theorem dX8_sortByAmount_70 : decode cX8_sortByAmount 70 = .ok (.iload_n 2, 1) := by decide +kernel
theorem dX8_sortByAmount_71 : decode cX8_sortByAmount 71 = .ok (.iload_n 1, 1) := by decide +kernel
theorem dX8_sortByAmount_72 : decode cX8_sortByAmount 72 = .ok (.invokestatic 52, 3) := by decide +kernel
theorem dX8_sortByAmount_75 : decode cX8_sortByAmount 75 = .ok (.iinc 1 1, 3) := by decide +kernel
theorem dX8_sortByAmount_78 : decode cX8_sortByAmount 78 = .ok (.goto (-76), 3) := by decide +kernel
theorem dX8_sortByAmount_81 : decode cX8_sortByAmount 81 = .ok (.return_, 1) := by decide +kernel
set_option maxRecDepth 20000 in
theorem ggX8_setShares_X11_setAt : GoodIn wsX8_setShares wsX11_setAt := goodIn_ca (goodIn_r _ [9] (by decide +kernel) (by decide +kernel)) (goodIn_sub (fun _ h => List.mem_cons_of_mem _ (List.mem_append_right _ h)) (by decide +kernel))
set_option maxRecDepth 20000 in
theorem gX8_setShares_X11_setAt_n52 : GoodIn wsX8_setShares (wsX11_setAt) := ggX8_setShares_X11_setAt
set_option maxRecDepth 20000 in
theorem ggX8_setShares_X10_size : GoodIn wsX8_setShares wsX10_size := goodIn_r _ [14, 15, 49, 50, 51, 52, 53] (by decide +kernel) (by decide +kernel)
set_option maxRecDepth 20000 in
theorem gX8_setShares_X10_size : GoodIn wsX8_setShares (wsV RX8 93 RX10 yX10_size wsX10_size) := goodIn_app (goodIn_of _ (by decide +kernel)) ggX8_setShares_X10_size
set_option maxRecDepth 20000 in
theorem ggX8_setShares_X10_maskAt : GoodIn wsX8_setShares wsX10_maskAt := goodIn_ca (goodIn_r _ [19, 20, 21, 8, 22, 49, 50, 51, 52, 53] (by decide +kernel) (by decide +kernel)) (goodIn_sub (fun _ h => List.mem_cons_of_mem _ (List.mem_append_right _ h)) (by decide +kernel))
set_option maxRecDepth 20000 in
theorem gX8_setShares_X10_maskAt : GoodIn wsX8_setShares (wsV RX8 96 RX10 yX10_maskAt wsX10_maskAt) := goodIn_app (goodIn_of _ (by decide +kernel)) ggX8_setShares_X10_maskAt
set_option maxRecDepth 20000 in
theorem ggX8_setShares_J6_bitCount_0f7a4 : GoodIn wsX8_setShares wsJ6_bitCount_0f7a4 := goodIn_r _ [26, 27, 28, 29] (by decide +kernel) (by decide +kernel)
set_option maxRecDepth 20000 in
theorem gX8_setShares_J6_bitCount_0f7a4 : GoodIn wsX8_setShares (va_wsS RX8 99 yJ6_bitCount_0f7a4 wsJ6_bitCount_0f7a4) := goodIn_app (goodIn_of _ (by decide +kernel)) ggX8_setShares_J6_bitCount_0f7a4
set_option maxRecDepth 20000 in
theorem ggX8_setShares_X10_discountAt : GoodIn wsX8_setShares wsX10_discountAt := goodIn_ca (goodIn_r _ [33, 34, 21, 8, 22, 49, 50, 51, 52, 53] (by decide +kernel) (by decide +kernel)) (goodIn_sub (fun _ h => List.mem_cons_of_mem _ (List.mem_append_right _ h)) (by decide +kernel))
set_option maxRecDepth 20000 in
theorem gX8_setShares_X10_discountAt : GoodIn wsX8_setShares (wsV RX8 104 RX10 yX10_discountAt wsX10_discountAt) := goodIn_app (goodIn_of _ (by decide +kernel)) ggX8_setShares_X10_discountAt
set_option maxRecDepth 20000 in
theorem ggX8_setShares_X11_isIn : GoodIn wsX8_setShares wsX11_isIn := goodIn_r _ [36] (by decide +kernel) (by decide +kernel)
set_option maxRecDepth 20000 in
theorem gX8_setShares_X11_isIn_n107 : GoodIn wsX8_setShares (wsX11_isIn) := ggX8_setShares_X11_isIn
set_option maxRecDepth 20000 in
theorem ggX8_setShares_X11_at : GoodIn wsX8_setShares wsX11_at := goodIn_ca (goodIn_r _ [22] (by decide +kernel) (by decide +kernel)) (goodIn_sub (fun _ h => List.mem_cons_of_mem _ (List.mem_append_right _ h)) (by decide +kernel))
set_option maxRecDepth 20000 in
theorem gX8_setShares_X11_at_n86 : GoodIn wsX8_setShares (wsX11_at) := ggX8_setShares_X11_at
theorem dX8_setShares_0 : decode cX8_setShares 0 = .ok (.iconst 0, 1) := by decide +kernel
theorem dX8_setShares_1 : decode cX8_setShares 1 = .ok (.istore_n 1, 1) := by decide +kernel
theorem dX8_setShares_2 : decode cX8_setShares 2 = .ok (.iload_n 1, 1) := by decide +kernel
theorem dX8_setShares_3 : decode cX8_setShares 3 = .ok (.bipush 7, 2) := by decide +kernel
theorem dX8_setShares_5 : decode cX8_setShares 5 = .ok (.if_icmp .ge 18, 3) := by decide +kernel
theorem dX8_setShares_8 : decode cX8_setShares 8 = .ok (.aload_n 0, 1) := by decide +kernel
theorem dX8_setShares_9 : decode cX8_setShares 9 = .ok (.getfield 25, 3) := by decide +kernel
theorem dX8_setShares_12 : decode cX8_setShares 12 = .ok (.iload_n 1, 1) := by decide +kernel
theorem dX8_setShares_13 : decode cX8_setShares 13 = .ok (.iconst 0, 1) := by decide +kernel
theorem dX8_setShares_14 : decode cX8_setShares 14 = .ok (.invokestatic 52, 3) := by decide +kernel
theorem dX8_setShares_17 : decode cX8_setShares 17 = .ok (.iinc 1 1, 3) := by decide +kernel
theorem dX8_setShares_20 : decode cX8_setShares 20 = .ok (.goto (-18), 3) := by decide +kernel
theorem dX8_setShares_23 : decode cX8_setShares 23 = .ok (.iconst 0, 1) := by decide +kernel
theorem dX8_setShares_24 : decode cX8_setShares 24 = .ok (.istore_n 1, 1) := by decide +kernel
theorem dX8_setShares_25 : decode cX8_setShares 25 = .ok (.iload_n 1, 1) := by decide +kernel
theorem dX8_setShares_26 : decode cX8_setShares 26 = .ok (.aload_n 0, 1) := by decide +kernel
theorem dX8_setShares_27 : decode cX8_setShares 27 = .ok (.getfield 12, 3) := by decide +kernel
theorem dX8_setShares_30 : decode cX8_setShares 30 = .ok (.invokevirtual 93, 3) := by decide +kernel
theorem dX8_setShares_33 : decode cX8_setShares 33 = .ok (.if_icmp .ge 97, 3) := by decide +kernel
theorem dX8_setShares_36 : decode cX8_setShares 36 = .ok (.aload_n 0, 1) := by decide +kernel
theorem dX8_setShares_37 : decode cX8_setShares 37 = .ok (.getfield 12, 3) := by decide +kernel
theorem dX8_setShares_40 : decode cX8_setShares 40 = .ok (.iload_n 1, 1) := by decide +kernel
theorem dX8_setShares_41 : decode cX8_setShares 41 = .ok (.invokevirtual 96, 3) := by decide +kernel
theorem dX8_setShares_44 : decode cX8_setShares 44 = .ok (.invokestatic 99, 3) := by decide +kernel
theorem dX8_setShares_47 : decode cX8_setShares 47 = .ok (.istore_n 2, 1) := by decide +kernel
theorem dX8_setShares_48 : decode cX8_setShares 48 = .ok (.iload_n 2, 1) := by decide +kernel
theorem dX8_setShares_49 : decode cX8_setShares 49 = .ok (.ifCond .le 19, 3) := by decide +kernel
theorem dX8_setShares_52 : decode cX8_setShares 52 = .ok (.aload_n 0, 1) := by decide +kernel
theorem dX8_setShares_53 : decode cX8_setShares 53 = .ok (.getfield 12, 3) := by decide +kernel
theorem dX8_setShares_56 : decode cX8_setShares 56 = .ok (.iload_n 1, 1) := by decide +kernel
theorem dX8_setShares_57 : decode cX8_setShares 57 = .ok (.invokevirtual 104, 3) := by decide +kernel
theorem dX8_setShares_60 : decode cX8_setShares 60 = .ok (.bipush 60, 2) := by decide +kernel
theorem dX8_setShares_62 : decode cX8_setShares 62 = .ok (.imul, 1) := by decide +kernel
theorem dX8_setShares_63 : decode cX8_setShares 63 = .ok (.iload_n 2, 1) := by decide +kernel
theorem dX8_setShares_64 : decode cX8_setShares 64 = .ok (.idiv, 1) := by decide +kernel
theorem dX8_setShares_65 : decode cX8_setShares 65 = .ok (.goto 4, 3) := by decide +kernel
theorem dX8_setShares_68 : decode cX8_setShares 68 = .ok (.iconst 0, 1) := by decide +kernel
theorem dX8_setShares_69 : decode cX8_setShares 69 = .ok (.istore_n 3, 1) := by decide +kernel
theorem dX8_setShares_70 : decode cX8_setShares 70 = .ok (.iconst 0, 1) := by decide +kernel
theorem dX8_setShares_71 : decode cX8_setShares 71 = .ok (.istore 4, 2) := by decide +kernel
theorem dX8_setShares_73 : decode cX8_setShares 73 = .ok (.iload 4, 2) := by decide +kernel
theorem dX8_setShares_75 : decode cX8_setShares 75 = .ok (.bipush 7, 2) := by decide +kernel
theorem dX8_setShares_77 : decode cX8_setShares 77 = .ok (.if_icmp .ge 47, 3) := by decide +kernel
theorem dX8_setShares_80 : decode cX8_setShares 80 = .ok (.aload_n 0, 1) := by decide +kernel
theorem dX8_setShares_81 : decode cX8_setShares 81 = .ok (.getfield 12, 3) := by decide +kernel
theorem dX8_setShares_84 : decode cX8_setShares 84 = .ok (.iload_n 1, 1) := by decide +kernel
theorem dX8_setShares_85 : decode cX8_setShares 85 = .ok (.invokevirtual 96, 3) := by decide +kernel
theorem dX8_setShares_88 : decode cX8_setShares 88 = .ok (.iload 4, 2) := by decide +kernel
theorem dX8_setShares_90 : decode cX8_setShares 90 = .ok (.invokestatic 107, 3) := by decide +kernel
theorem dX8_setShares_93 : decode cX8_setShares 93 = .ok (.ifCond .eq 25, 3) := by decide +kernel
theorem dX8_setShares_96 : decode cX8_setShares 96 = .ok (.aload_n 0, 1) := by decide +kernel
theorem dX8_setShares_97 : decode cX8_setShares 97 = .ok (.getfield 25, 3) := by decide +kernel
theorem dX8_setShares_100 : decode cX8_setShares 100 = .ok (.iload 4, 2) := by decide +kernel
theorem dX8_setShares_102 : decode cX8_setShares 102 = .ok (.iload_n 3, 1) := by decide +kernel
theorem dX8_setShares_103 : decode cX8_setShares 103 = .ok (.aload_n 0, 1) := by decide +kernel
theorem dX8_setShares_104 : decode cX8_setShares 104 = .ok (.getfield 25, 3) := by decide +kernel
theorem dX8_setShares_107 : decode cX8_setShares 107 = .ok (.iload 4, 2) := by decide +kernel
theorem dX8_setShares_109 : decode cX8_setShares 109 = .ok (.invokestatic 86, 3) := by decide +kernel
theorem dX8_setShares_112 : decode cX8_setShares 112 = .ok (.invokestatic 111, 3) := by decide +kernel
theorem dX8_setShares_115 : decode cX8_setShares 115 = .ok (.invokestatic 52, 3) := by decide +kernel
theorem dX8_setShares_118 : decode cX8_setShares 118 = .ok (.iinc 4 1, 3) := by decide +kernel
theorem dX8_setShares_121 : decode cX8_setShares 121 = .ok (.goto (-48), 3) := by decide +kernel
theorem dX8_setShares_124 : decode cX8_setShares 124 = .ok (.iinc 1 1, 3) := by decide +kernel
theorem dX8_setShares_127 : decode cX8_setShares 127 = .ok (.goto (-102), 3) := by decide +kernel
theorem dX8_setShares_130 : decode cX8_setShares 130 = .ok (.return_, 1) := by decide +kernel
set_option maxRecDepth 20000 in
theorem ggX8_decide_X8_withThresholds : GoodIn wsX8_decide wsX8_withThresholds := goodIn_ca (goodIn_r _ [8, 9, 10, 11, 12, 13, 14, 15, 7, 16, 17, 18, 19, 20, 21, 22, 23, 24, 25, 26, 27, 28, 29, 30, 89, 90, 91, 92, 93, 94, 95, 96, 97, 98, 99, 100, 101, 102, 103, 104, 105, 106] (by decide +kernel) (by decide +kernel)) (goodIn_sub (fun _ h => List.mem_cons_of_mem _ (List.mem_append_right _ h)) (by decide +kernel))
set_option maxRecDepth 20000 in
theorem gX8_decide_X8_withThresholds : GoodIn wsX8_decide (wsV RX8 116 RX8 yX8_withThresholds wsX8_withThresholds) := goodIn_app (goodIn_of _ (by decide +kernel)) ggX8_decide_X8_withThresholds
set_option maxRecDepth 20000 in
theorem ggX8_decide_X8_amountOf : GoodIn wsX8_decide wsX8_amountOf := goodIn_ca (goodIn_r _ [34, 18, 35, 36, 37, 23, 38, 39, 10, 11, 12, 89, 90, 91, 92, 93, 94, 95, 96, 97, 98, 99, 100, 101, 102, 103, 104, 105, 106] (by decide +kernel) (by decide +kernel)) (goodIn_sub (fun _ h => List.mem_cons_of_mem _ (List.mem_append_right _ h)) (by decide +kernel))
set_option maxRecDepth 20000 in
theorem gX8_decide_X8_amountOf : GoodIn wsX8_decide (wsV RX8 119 RX8 yX8_amountOf wsX8_amountOf) := goodIn_app (goodIn_of _ (by decide +kernel)) ggX8_decide_X8_amountOf
set_option maxRecDepth 20000 in
theorem ggX8_decide_X8_mostOn : GoodIn wsX8_decide wsX8_mostOn := goodIn_ca (goodIn_r _ [43, 44, 45, 11, 46, 10, 12, 89, 90, 91, 92, 93, 94, 95, 96, 97, 98, 99, 100] (by decide +kernel) (by decide +kernel)) (goodIn_sub (fun _ h => List.mem_cons_of_mem _ (List.mem_append_right _ h)) (by decide +kernel))
set_option maxRecDepth 20000 in
theorem gX8_decide_X8_mostOn : GoodIn wsX8_decide (wsV RX8 120 RX8 yX8_mostOn wsX8_mostOn) := goodIn_app (goodIn_of _ (by decide +kernel)) ggX8_decide_X8_mostOn
set_option maxRecDepth 20000 in
theorem ggX8_decide_X8_keep : GoodIn wsX8_decide wsX8_keep := goodIn_ca (goodIn_r _ [50, 1, 51, 52, 3, 10, 11, 12, 53, 54, 89, 90, 91, 92, 93, 94, 95, 96, 97, 98, 99, 100] (by decide +kernel) (by decide +kernel)) (goodIn_sub (fun _ h => List.mem_cons_of_mem _ (List.mem_append_right _ h)) (by decide +kernel))
set_option maxRecDepth 20000 in
theorem gX8_decide_X8_keep : GoodIn wsX8_decide (wsV RX8 123 RX8 yX8_keep wsX8_keep) := goodIn_app (goodIn_of _ (by decide +kernel)) ggX8_decide_X8_keep
set_option maxRecDepth 20000 in
theorem ggX8_decide_X11_isIn : GoodIn wsX8_decide wsX11_isIn := goodIn_r _ [46] (by decide +kernel) (by decide +kernel)
set_option maxRecDepth 20000 in
theorem gX8_decide_X11_isIn_n107 : GoodIn wsX8_decide (wsX11_isIn) := ggX8_decide_X11_isIn
set_option maxRecDepth 20000 in
theorem ggX8_decide_X10_startOf : GoodIn wsX8_decide wsX10_startOf := goodIn_ca (goodIn_r _ [59, 60, 10, 11, 12, 107, 108, 109, 110, 111] (by decide +kernel) (by decide +kernel)) (goodIn_sub (fun _ h => List.mem_cons_of_mem _ (List.mem_append_right _ h)) (by decide +kernel))
set_option maxRecDepth 20000 in
theorem gX8_decide_X10_startOf : GoodIn wsX8_decide (wsV RX8 127 RX10 yX10_startOf wsX10_startOf) := goodIn_app (goodIn_of _ (by decide +kernel)) ggX8_decide_X10_startOf
set_option maxRecDepth 20000 in
theorem ggX8_decide_X8_fits : GoodIn wsX8_decide wsX8_fits := goodIn_ca (goodIn_r _ [64, 2, 17, 18, 65, 66, 67, 58, 68, 69, 10, 11, 12, 70, 71, 72, 73, 74, 20, 21, 22, 23, 24, 25, 89, 90, 91, 92, 93, 94, 95, 96, 97, 98, 99, 100, 107, 108, 109, 110, 111, 101, 102, 103, 104, 105, 106] (by decide +kernel) (by decide +kernel)) (goodIn_sub (fun _ h => List.mem_cons_of_mem _ (List.mem_append_right _ h)) (by decide +kernel))
set_option maxRecDepth 20000 in
theorem gX8_decide_X8_fits : GoodIn wsX8_decide (wsV RX8 130 RX8 yX8_fits wsX8_fits) := goodIn_app (goodIn_of _ (by decide +kernel)) ggX8_decide_X8_fits
set_option maxRecDepth 20000 in
theorem ggX8_decide_X11_setAt : GoodIn wsX8_decide wsX11_setAt := goodIn_ca (goodIn_r _ [54] (by decide +kernel) (by decide +kernel)) (goodIn_sub (fun _ h => List.mem_cons_of_mem _ (List.mem_append_right _ h)) (by decide +kernel))
set_option maxRecDepth 20000 in
theorem gX8_decide_X11_setAt_n52 : GoodIn wsX8_decide (wsX11_setAt) := ggX8_decide_X11_setAt
set_option maxRecDepth 20000 in
theorem ggX8_decide_X8_change : GoodIn wsX8_decide wsX8_change := goodIn_ca (goodIn_r _ [78, 2, 17, 65, 66, 67, 58, 68, 69, 10, 11, 12, 53, 54, 89, 90, 91, 92, 93, 94, 95, 96, 97, 98, 99, 100, 107, 108, 109, 110, 111] (by decide +kernel) (by decide +kernel)) (goodIn_sub (fun _ h => List.mem_cons_of_mem _ (List.mem_append_right _ h)) (by decide +kernel))
set_option maxRecDepth 20000 in
theorem gX8_decide_X8_change : GoodIn wsX8_decide (wsV RX8 134 RX8 yX8_change wsX8_change) := goodIn_app (goodIn_of _ (by decide +kernel)) ggX8_decide_X8_change
set_option maxRecDepth 20000 in
theorem ggX8_decide_X10_maskAt : GoodIn wsX8_decide wsX10_maskAt := goodIn_ca (goodIn_r _ [73, 74, 10, 11, 12, 107, 108, 109, 110, 111] (by decide +kernel) (by decide +kernel)) (goodIn_sub (fun _ h => List.mem_cons_of_mem _ (List.mem_append_right _ h)) (by decide +kernel))
set_option maxRecDepth 20000 in
theorem gX8_decide_X10_maskAt : GoodIn wsX8_decide (wsV RX8 96 RX10 yX10_maskAt wsX10_maskAt) := goodIn_app (goodIn_of _ (by decide +kernel)) ggX8_decide_X10_maskAt
set_option maxRecDepth 20000 in
theorem ggX8_decide_X10_discountAt : GoodIn wsX8_decide wsX10_discountAt := goodIn_ca (goodIn_r _ [82, 83, 10, 11, 12, 107, 108, 109, 110, 111] (by decide +kernel) (by decide +kernel)) (goodIn_sub (fun _ h => List.mem_cons_of_mem _ (List.mem_append_right _ h)) (by decide +kernel))
set_option maxRecDepth 20000 in
theorem gX8_decide_X10_discountAt : GoodIn wsX8_decide (wsV RX8 104 RX10 yX10_discountAt wsX10_discountAt) := goodIn_app (goodIn_of _ (by decide +kernel)) ggX8_decide_X10_discountAt
set_option maxRecDepth 20000 in
theorem ggX8_decide_X10_offerAt : GoodIn wsX8_decide wsX10_offerAt := goodIn_ca (goodIn_r _ [68, 69, 10, 11, 12, 107, 108, 109, 110, 111] (by decide +kernel) (by decide +kernel)) (goodIn_sub (fun _ h => List.mem_cons_of_mem _ (List.mem_append_right _ h)) (by decide +kernel))
set_option maxRecDepth 20000 in
theorem gX8_decide_X10_offerAt : GoodIn wsX8_decide (wsV RX8 137 RX10 yX10_offerAt wsX10_offerAt) := goodIn_app (goodIn_of _ (by decide +kernel)) ggX8_decide_X10_offerAt
set_option maxRecDepth 20000 in
theorem ggX8_decide_X8_decide : GoodIn wsX8_decide wsX8_decide := goodIn_ca (goodIn_r _ [0, 1, 2, 3, 4, 5, 6, 7, 8, 9, 10, 11, 12, 13, 14, 15, 16, 17, 18, 19, 20, 21, 22, 23, 24, 25, 26, 27, 28, 29, 30, 31, 32, 33, 34, 35, 36, 37, 38, 39, 40, 41, 42, 43, 44, 45, 46, 47, 48, 49, 50, 51, 52, 53, 54, 55, 56, 57, 58, 59, 60, 61, 62, 63, 64, 65, 66, 67, 68, 69, 70, 71, 72, 73, 74, 75, 76, 77, 78, 79, 80, 81, 82, 83, 84, 85, 86, 87, 88, 89, 90, 91, 92, 93, 94, 95, 96, 97, 98, 99, 100, 101, 102, 103, 104, 105, 106, 107, 108, 109, 110, 111] (by decide +kernel) (by decide +kernel)) (goodIn_sub (fun _ h => List.mem_cons_of_mem _ (List.mem_append_right _ h)) (by decide +kernel))
set_option maxRecDepth 20000 in
theorem gX8_decide_X8_decide : GoodIn wsX8_decide (wsV RX8 82 RX8 yX8_decide wsX8_decide) := goodIn_app (goodIn_of _ (by decide +kernel)) ggX8_decide_X8_decide
set_option maxRecDepth 20000 in
theorem ggX8_decide_X11_bitOf : GoodIn wsX8_decide wsX11_bitOf := goodIn_r _ [88] (by decide +kernel) (by decide +kernel)
set_option maxRecDepth 20000 in
theorem gX8_decide_X11_bitOf_n140 : GoodIn wsX8_decide (wsX11_bitOf) := ggX8_decide_X11_bitOf
theorem dX8_decide_0 : decode cX8_decide 0 = .ok (.aload_n 0, 1) := by decide +kernel
theorem dX8_decide_1 : decode cX8_decide 1 = .ok (.iload 4, 2) := by decide +kernel
theorem dX8_decide_3 : decode cX8_decide 3 = .ok (.iload_n 3, 1) := by decide +kernel
theorem dX8_decide_4 : decode cX8_decide 4 = .ok (.invokevirtual 116, 3) := by decide +kernel
theorem dX8_decide_7 : decode cX8_decide 7 = .ok (.istore 5, 2) := by decide +kernel
theorem dX8_decide_9 : decode cX8_decide 9 = .ok (.iload_n 3, 1) := by decide +kernel
theorem dX8_decide_10 : decode cX8_decide 10 = .ok (.aload_n 0, 1) := by decide +kernel
theorem dX8_decide_11 : decode cX8_decide 11 = .ok (.iload 5, 2) := by decide +kernel
theorem dX8_decide_13 : decode cX8_decide 13 = .ok (.invokevirtual 119, 3) := by decide +kernel
theorem dX8_decide_16 : decode cX8_decide 16 = .ok (.iadd, 1) := by decide +kernel
theorem dX8_decide_17 : decode cX8_decide 17 = .ok (.istore 6, 2) := by decide +kernel
theorem dX8_decide_19 : decode cX8_decide 19 = .ok (.iload 6, 2) := by decide +kernel
theorem dX8_decide_21 : decode cX8_decide 21 = .ok (.aload_n 0, 1) := by decide +kernel
theorem dX8_decide_22 : decode cX8_decide 22 = .ok (.iload_n 2, 1) := by decide +kernel
theorem dX8_decide_23 : decode cX8_decide 23 = .ok (.invokevirtual 120, 3) := by decide +kernel
theorem dX8_decide_26 : decode cX8_decide 26 = .ok (.iadd, 1) := by decide +kernel
theorem dX8_decide_27 : decode cX8_decide 27 = .ok (.aload_n 0, 1) := by decide +kernel
theorem dX8_decide_28 : decode cX8_decide 28 = .ok (.getfield 79, 3) := by decide +kernel
theorem dX8_decide_31 : decode cX8_decide 31 = .ok (.if_icmp .gt 4, 3) := by decide +kernel
theorem dX8_decide_34 : decode cX8_decide 34 = .ok (.return_, 1) := by decide +kernel
theorem dX8_decide_35 : decode cX8_decide 35 = .ok (.iload_n 1, 1) := by decide +kernel
theorem dX8_decide_36 : decode cX8_decide 36 = .ok (.bipush 7, 2) := by decide +kernel
theorem dX8_decide_38 : decode cX8_decide 38 = .ok (.if_icmp .lt 12, 3) := by decide +kernel
theorem dX8_decide_41 : decode cX8_decide 41 = .ok (.aload_n 0, 1) := by decide +kernel
theorem dX8_decide_42 : decode cX8_decide 42 = .ok (.iload 6, 2) := by decide +kernel
theorem dX8_decide_44 : decode cX8_decide 44 = .ok (.iload 5, 2) := by decide +kernel
theorem dX8_decide_46 : decode cX8_decide 46 = .ok (.invokevirtual 123, 3) := by decide +kernel
theorem dX8_decide_49 : decode cX8_decide 49 = .ok (.return_, 1) := by decide +kernel
theorem dX8_decide_50 : decode cX8_decide 50 = .ok (.iload_n 2, 1) := by decide +kernel
theorem dX8_decide_51 : decode cX8_decide 51 = .ok (.iload_n 1, 1) := by decide +kernel
theorem dX8_decide_52 : decode cX8_decide 52 = .ok (.invokestatic 107, 3) := by decide +kernel
theorem dX8_decide_55 : decode cX8_decide 55 = .ok (.ifCond .eq 119, 3) := by decide +kernel
theorem dX8_decide_58 : decode cX8_decide 58 = .ok (.aload_n 0, 1) := by decide +kernel
theorem dX8_decide_59 : decode cX8_decide 59 = .ok (.getfield 12, 3) := by decide +kernel
theorem dX8_decide_62 : decode cX8_decide 62 = .ok (.iload_n 1, 1) := by decide +kernel
theorem dX8_decide_63 : decode cX8_decide 63 = .ok (.iconst 1, 1) := by decide +kernel
theorem dX8_decide_64 : decode cX8_decide 64 = .ok (.iadd, 1) := by decide +kernel
theorem dX8_decide_65 : decode cX8_decide 65 = .ok (.invokevirtual 127, 3) := by decide +kernel
theorem dX8_decide_68 : decode cX8_decide 68 = .ok (.istore 7, 2) := by decide +kernel
theorem dX8_decide_70 : decode cX8_decide 70 = .ok (.aload_n 0, 1) := by decide +kernel
theorem dX8_decide_71 : decode cX8_decide 71 = .ok (.getfield 12, 3) := by decide +kernel
theorem dX8_decide_74 : decode cX8_decide 74 = .ok (.iload_n 1, 1) := by decide +kernel
theorem dX8_decide_75 : decode cX8_decide 75 = .ok (.invokevirtual 127, 3) := by decide +kernel
theorem dX8_decide_78 : decode cX8_decide 78 = .ok (.istore 8, 2) := by decide +kernel
theorem dX8_decide_80 : decode cX8_decide 80 = .ok (.iload 8, 2) := by decide +kernel
theorem dX8_decide_82 : decode cX8_decide 82 = .ok (.iload 7, 2) := by decide +kernel
theorem dX8_decide_84 : decode cX8_decide 84 = .ok (.if_icmp .ge 90, 3) := by decide +kernel
theorem dX8_decide_87 : decode cX8_decide 87 = .ok (.aload_n 0, 1) := by decide +kernel
theorem dX8_decide_88 : decode cX8_decide 88 = .ok (.iload 8, 2) := by decide +kernel
theorem dX8_decide_90 : decode cX8_decide 90 = .ok (.iload_n 2, 1) := by decide +kernel
theorem dX8_decide_91 : decode cX8_decide 91 = .ok (.iload 4, 2) := by decide +kernel
theorem dX8_decide_93 : decode cX8_decide 93 = .ok (.invokevirtual 130, 3) := by decide +kernel
theorem dX8_decide_96 : decode cX8_decide 96 = .ok (.ifCond .eq 72, 3) := by decide +kernel
theorem dX8_decide_99 : decode cX8_decide 99 = .ok (.aload_n 0, 1) := by decide +kernel
theorem dX8_decide_100 : decode cX8_decide 100 = .ok (.getfield 28, 3) := by decide +kernel
theorem dX8_decide_103 : decode cX8_decide 103 = .ok (.iload_n 1, 1) := by decide +kernel
theorem dX8_decide_104 : decode cX8_decide 104 = .ok (.iload 8, 2) := by decide +kernel
theorem dX8_decide_106 : decode cX8_decide 106 = .ok (.invokestatic 52, 3) := by decide +kernel
theorem dX8_decide_109 : decode cX8_decide 109 = .ok (.aload_n 0, 1) := by decide +kernel
theorem dX8_decide_110 : decode cX8_decide 110 = .ok (.iload 8, 2) := by decide +kernel
theorem dX8_decide_112 : decode cX8_decide 112 = .ok (.iconst (-1), 1) := by decide +kernel
theorem dX8_decide_113 : decode cX8_decide 113 = .ok (.invokevirtual 134, 3) := by decide +kernel
theorem dX8_decide_116 : decode cX8_decide 116 = .ok (.aload_n 0, 1) := by decide +kernel
theorem dX8_decide_117 : decode cX8_decide 117 = .ok (.iload_n 1, 1) := by decide +kernel
theorem dX8_decide_118 : decode cX8_decide 118 = .ok (.iconst 1, 1) := by decide +kernel
theorem dX8_decide_119 : decode cX8_decide 119 = .ok (.iadd, 1) := by decide +kernel
theorem dX8_decide_120 : decode cX8_decide 120 = .ok (.iload_n 2, 1) := by decide +kernel
theorem dX8_decide_121 : decode cX8_decide 121 = .ok (.aload_n 0, 1) := by decide +kernel
theorem dX8_decide_122 : decode cX8_decide 122 = .ok (.getfield 12, 3) := by decide +kernel
theorem dX8_decide_125 : decode cX8_decide 125 = .ok (.iload 8, 2) := by decide +kernel
theorem dX8_decide_127 : decode cX8_decide 127 = .ok (.invokevirtual 96, 3) := by decide +kernel
theorem dX8_decide_130 : decode cX8_decide 130 = .ok (.iconst (-1), 1) := by decide +kernel
theorem dX8_decide_131 : decode cX8_decide 131 = .ok (.ixor, 1) := by decide +kernel
theorem dX8_decide_132 : decode cX8_decide 132 = .ok (.iand, 1) := by decide +kernel
theorem dX8_decide_133 : decode cX8_decide 133 = .ok (.iload_n 3, 1) := by decide +kernel
theorem dX8_decide_134 : decode cX8_decide 134 = .ok (.aload_n 0, 1) := by decide +kernel
theorem dX8_decide_135 : decode cX8_decide 135 = .ok (.getfield 12, 3) := by decide +kernel
theorem dX8_decide_138 : decode cX8_decide 138 = .ok (.iload 8, 2) := by decide +kernel
theorem dX8_decide_140 : decode cX8_decide 140 = .ok (.invokevirtual 104, 3) := by decide +kernel
theorem dX8_decide_143 : decode cX8_decide 143 = .ok (.iadd, 1) := by decide +kernel
theorem dX8_decide_144 : decode cX8_decide 144 = .ok (.iload 4, 2) := by decide +kernel
theorem dX8_decide_146 : decode cX8_decide 146 = .ok (.iconst 1, 1) := by decide +kernel
theorem dX8_decide_147 : decode cX8_decide 147 = .ok (.aload_n 0, 1) := by decide +kernel
theorem dX8_decide_148 : decode cX8_decide 148 = .ok (.getfield 12, 3) := by decide +kernel
theorem dX8_decide_151 : decode cX8_decide 151 = .ok (.iload 8, 2) := by decide +kernel
theorem dX8_decide_153 : decode cX8_decide 153 = .ok (.invokevirtual 137, 3) := by decide +kernel
theorem dX8_decide_156 : decode cX8_decide 156 = .ok (.ishl, 1) := by decide +kernel
theorem dX8_decide_157 : decode cX8_decide 157 = .ok (.ior, 1) := by decide +kernel
theorem dX8_decide_158 : decode cX8_decide 158 = .ok (.invokevirtual 82, 3) := by decide +kernel
theorem dX8_decide_161 : decode cX8_decide 161 = .ok (.aload_n 0, 1) := by decide +kernel
theorem dX8_decide_162 : decode cX8_decide 162 = .ok (.iload 8, 2) := by decide +kernel
theorem dX8_decide_164 : decode cX8_decide 164 = .ok (.iconst 1, 1) := by decide +kernel
theorem dX8_decide_165 : decode cX8_decide 165 = .ok (.invokevirtual 134, 3) := by decide +kernel
theorem dX8_decide_168 : decode cX8_decide 168 = .ok (.iinc 8 1, 3) := by decide +kernel
theorem dX8_decide_171 : decode cX8_decide 171 = .ok (.goto (-91), 3) := by decide +kernel
theorem dX8_decide_174 : decode cX8_decide 174 = .ok (.aload_n 0, 1) := by decide +kernel
theorem dX8_decide_175 : decode cX8_decide 175 = .ok (.getfield 28, 3) := by decide +kernel
theorem dX8_decide_178 : decode cX8_decide 178 = .ok (.iload_n 1, 1) := by decide +kernel
theorem dX8_decide_179 : decode cX8_decide 179 = .ok (.iconst (-1), 1) := by decide +kernel
theorem dX8_decide_180 : decode cX8_decide 180 = .ok (.invokestatic 52, 3) := by decide +kernel
theorem dX8_decide_183 : decode cX8_decide 183 = .ok (.aload_n 0, 1) := by decide +kernel
theorem dX8_decide_184 : decode cX8_decide 184 = .ok (.iload_n 1, 1) := by decide +kernel
theorem dX8_decide_185 : decode cX8_decide 185 = .ok (.iconst 1, 1) := by decide +kernel
theorem dX8_decide_186 : decode cX8_decide 186 = .ok (.iadd, 1) := by decide +kernel
theorem dX8_decide_187 : decode cX8_decide 187 = .ok (.iload_n 2, 1) := by decide +kernel
theorem dX8_decide_188 : decode cX8_decide 188 = .ok (.iload_n 1, 1) := by decide +kernel
theorem dX8_decide_189 : decode cX8_decide 189 = .ok (.invokestatic 140, 3) := by decide +kernel
theorem dX8_decide_192 : decode cX8_decide 192 = .ok (.iconst (-1), 1) := by decide +kernel
theorem dX8_decide_193 : decode cX8_decide 193 = .ok (.ixor, 1) := by decide +kernel
theorem dX8_decide_194 : decode cX8_decide 194 = .ok (.iand, 1) := by decide +kernel
theorem dX8_decide_195 : decode cX8_decide 195 = .ok (.iload_n 3, 1) := by decide +kernel
theorem dX8_decide_196 : decode cX8_decide 196 = .ok (.iload 4, 2) := by decide +kernel
theorem dX8_decide_198 : decode cX8_decide 198 = .ok (.invokevirtual 82, 3) := by decide +kernel
theorem dX8_decide_201 : decode cX8_decide 201 = .ok (.return_, 1) := by decide +kernel
set_option maxRecDepth 20000 in
theorem ggX8_mostOn_X11_isIn : GoodIn wsX8_mostOn wsX11_isIn := goodIn_r _ [4] (by decide +kernel) (by decide +kernel)
set_option maxRecDepth 20000 in
theorem gX8_mostOn_X11_isIn_n107 : GoodIn wsX8_mostOn (wsX11_isIn) := ggX8_mostOn_X11_isIn
set_option maxRecDepth 20000 in
theorem ggX8_mostOn_X11_at : GoodIn wsX8_mostOn wsX11_at := goodIn_ca (goodIn_r _ [6] (by decide +kernel) (by decide +kernel)) (goodIn_sub (fun _ h => List.mem_cons_of_mem _ (List.mem_append_right _ h)) (by decide +kernel))
set_option maxRecDepth 20000 in
theorem gX8_mostOn_X11_at_n86 : GoodIn wsX8_mostOn (wsX11_at) := ggX8_mostOn_X11_at
theorem dX8_mostOn_0 : decode cX8_mostOn 0 = .ok (.iconst 0, 1) := by decide +kernel
theorem dX8_mostOn_1 : decode cX8_mostOn 1 = .ok (.istore_n 2, 1) := by decide +kernel
theorem dX8_mostOn_2 : decode cX8_mostOn 2 = .ok (.iconst 0, 1) := by decide +kernel
theorem dX8_mostOn_3 : decode cX8_mostOn 3 = .ok (.istore_n 3, 1) := by decide +kernel
theorem dX8_mostOn_4 : decode cX8_mostOn 4 = .ok (.iload_n 3, 1) := by decide +kernel
theorem dX8_mostOn_5 : decode cX8_mostOn 5 = .ok (.bipush 7, 2) := by decide +kernel
theorem dX8_mostOn_7 : decode cX8_mostOn 7 = .ok (.if_icmp .ge 28, 3) := by decide +kernel
theorem dX8_mostOn_10 : decode cX8_mostOn 10 = .ok (.iload_n 1, 1) := by decide +kernel
theorem dX8_mostOn_11 : decode cX8_mostOn 11 = .ok (.iload_n 3, 1) := by decide +kernel
theorem dX8_mostOn_12 : decode cX8_mostOn 12 = .ok (.invokestatic 107, 3) := by decide +kernel
theorem dX8_mostOn_15 : decode cX8_mostOn 15 = .ok (.ifCond .eq 14, 3) := by decide +kernel
theorem dX8_mostOn_18 : decode cX8_mostOn 18 = .ok (.iload_n 2, 1) := by decide +kernel
theorem dX8_mostOn_19 : decode cX8_mostOn 19 = .ok (.aload_n 0, 1) := by decide +kernel
theorem dX8_mostOn_20 : decode cX8_mostOn 20 = .ok (.getfield 25, 3) := by decide +kernel
theorem dX8_mostOn_23 : decode cX8_mostOn 23 = .ok (.iload_n 3, 1) := by decide +kernel
theorem dX8_mostOn_24 : decode cX8_mostOn 24 = .ok (.invokestatic 86, 3) := by decide +kernel
theorem dX8_mostOn_27 : decode cX8_mostOn 27 = .ok (.iadd, 1) := by decide +kernel
theorem dX8_mostOn_28 : decode cX8_mostOn 28 = .ok (.istore_n 2, 1) := by decide +kernel
theorem dX8_mostOn_29 : decode cX8_mostOn 29 = .ok (.iinc 3 1, 3) := by decide +kernel
theorem dX8_mostOn_32 : decode cX8_mostOn 32 = .ok (.goto (-28), 3) := by decide +kernel
theorem dX8_mostOn_35 : decode cX8_mostOn 35 = .ok (.iload_n 2, 1) := by decide +kernel
theorem dX8_mostOn_36 : decode cX8_mostOn 36 = .ok (.bipush 60, 2) := by decide +kernel
theorem dX8_mostOn_38 : decode cX8_mostOn 38 = .ok (.idiv, 1) := by decide +kernel
theorem dX8_mostOn_39 : decode cX8_mostOn 39 = .ok (.ireturn, 1) := by decide +kernel
set_option maxRecDepth 20000 in
theorem ggX8_fits_X10_offerAt : GoodIn wsX8_fits wsX10_offerAt := goodIn_ca (goodIn_r _ [8, 9, 10, 11, 12, 36, 37, 38, 39, 40] (by decide +kernel) (by decide +kernel)) (goodIn_sub (fun _ h => List.mem_cons_of_mem _ (List.mem_append_right _ h)) (by decide +kernel))
set_option maxRecDepth 20000 in
theorem gX8_fits_X10_offerAt : GoodIn wsX8_fits (wsV RX8 137 RX10 yX10_offerAt wsX10_offerAt) := goodIn_app (goodIn_of _ (by decide +kernel)) ggX8_fits_X10_offerAt
set_option maxRecDepth 20000 in
theorem ggX8_fits_X10_maskAt : GoodIn wsX8_fits wsX10_maskAt := goodIn_ca (goodIn_r _ [16, 17, 10, 11, 12, 36, 37, 38, 39, 40] (by decide +kernel) (by decide +kernel)) (goodIn_sub (fun _ h => List.mem_cons_of_mem _ (List.mem_append_right _ h)) (by decide +kernel))
set_option maxRecDepth 20000 in
theorem gX8_fits_X10_maskAt : GoodIn wsX8_fits (wsV RX8 96 RX10 yX10_maskAt wsX10_maskAt) := goodIn_app (goodIn_of _ (by decide +kernel)) ggX8_fits_X10_maskAt
set_option maxRecDepth 20000 in
theorem ggX8_fits_X11_at : GoodIn wsX8_fits wsX11_at := goodIn_ca (goodIn_r _ [12] (by decide +kernel) (by decide +kernel)) (goodIn_sub (fun _ h => List.mem_cons_of_mem _ (List.mem_append_right _ h)) (by decide +kernel))
set_option maxRecDepth 20000 in
theorem gX8_fits_X11_at_n86 : GoodIn wsX8_fits (wsX11_at) := ggX8_fits_X11_at
set_option maxRecDepth 20000 in
theorem ggX8_fits_X6_rivalsOf : GoodIn wsX8_fits wsX6_rivalsOf := goodIn_ca (goodIn_r _ [22, 23, 10, 11, 12, 41, 42, 43, 44, 45, 46] (by decide +kernel) (by decide +kernel)) (goodIn_sub (fun _ h => List.mem_cons_of_mem _ (List.mem_append_right _ h)) (by decide +kernel))
set_option maxRecDepth 20000 in
theorem gX8_fits_X6_rivalsOf : GoodIn wsX8_fits (wsV RX8 143 RX6 yX6_rivalsOf wsX6_rivalsOf) := goodIn_app (goodIn_of _ (by decide +kernel)) ggX8_fits_X6_rivalsOf
theorem dX8_fits_0 : decode cX8_fits 0 = .ok (.aload_n 0, 1) := by decide +kernel
theorem dX8_fits_1 : decode cX8_fits 1 = .ok (.getfield 12, 3) := by decide +kernel
theorem dX8_fits_4 : decode cX8_fits 4 = .ok (.iload_n 1, 1) := by decide +kernel
theorem dX8_fits_5 : decode cX8_fits 5 = .ok (.invokevirtual 137, 3) := by decide +kernel
theorem dX8_fits_8 : decode cX8_fits 8 = .ok (.istore 4, 2) := by decide +kernel
theorem dX8_fits_10 : decode cX8_fits 10 = .ok (.aload_n 0, 1) := by decide +kernel
theorem dX8_fits_11 : decode cX8_fits 11 = .ok (.getfield 12, 3) := by decide +kernel
theorem dX8_fits_14 : decode cX8_fits 14 = .ok (.iload_n 1, 1) := by decide +kernel
theorem dX8_fits_15 : decode cX8_fits 15 = .ok (.invokevirtual 96, 3) := by decide +kernel
theorem dX8_fits_18 : decode cX8_fits 18 = .ok (.iload_n 2, 1) := by decide +kernel
theorem dX8_fits_19 : decode cX8_fits 19 = .ok (.iconst (-1), 1) := by decide +kernel
theorem dX8_fits_20 : decode cX8_fits 20 = .ok (.ixor, 1) := by decide +kernel
theorem dX8_fits_21 : decode cX8_fits 21 = .ok (.iand, 1) := by decide +kernel
theorem dX8_fits_22 : decode cX8_fits 22 = .ok (.ifCond .ne 33, 3) := by decide +kernel
theorem dX8_fits_25 : decode cX8_fits 25 = .ok (.aload_n 0, 1) := by decide +kernel
theorem dX8_fits_26 : decode cX8_fits 26 = .ok (.getfield 18, 3) := by decide +kernel
theorem dX8_fits_29 : decode cX8_fits 29 = .ok (.iload 4, 2) := by decide +kernel
theorem dX8_fits_31 : decode cX8_fits 31 = .ok (.invokestatic 86, 3) := by decide +kernel
theorem dX8_fits_34 : decode cX8_fits 34 = .ok (.ifCond .le 21, 3) := by decide +kernel
theorem dX8_fits_37 : decode cX8_fits 37 = .ok (.aload_n 0, 1) := by decide +kernel
theorem dX8_fits_38 : decode cX8_fits 38 = .ok (.getfield 38, 3) := by decide +kernel
theorem dX8_fits_41 : decode cX8_fits 41 = .ok (.iload 4, 2) := by decide +kernel
theorem dX8_fits_43 : decode cX8_fits 43 = .ok (.invokevirtual 143, 3) := by decide +kernel
theorem dX8_fits_46 : decode cX8_fits 46 = .ok (.iload_n 3, 1) := by decide +kernel
theorem dX8_fits_47 : decode cX8_fits 47 = .ok (.iand, 1) := by decide +kernel
theorem dX8_fits_48 : decode cX8_fits 48 = .ok (.ifCond .ne 7, 3) := by decide +kernel
theorem dX8_fits_51 : decode cX8_fits 51 = .ok (.iconst 1, 1) := by decide +kernel
theorem dX8_fits_52 : decode cX8_fits 52 = .ok (.goto 4, 3) := by decide +kernel
theorem dX8_fits_55 : decode cX8_fits 55 = .ok (.iconst 0, 1) := by decide +kernel
theorem dX8_fits_56 : decode cX8_fits 56 = .ok (.ireturn, 1) := by decide +kernel
set_option maxRecDepth 20000 in
theorem ggX8_change_X10_offerAt : GoodIn wsX8_change wsX10_offerAt := goodIn_ca (goodIn_r _ [7, 8, 9, 10, 11, 26, 27, 28, 29, 30] (by decide +kernel) (by decide +kernel)) (goodIn_sub (fun _ h => List.mem_cons_of_mem _ (List.mem_append_right _ h)) (by decide +kernel))
set_option maxRecDepth 20000 in
theorem gX8_change_X10_offerAt : GoodIn wsX8_change (wsV RX8 137 RX10 yX10_offerAt wsX10_offerAt) := goodIn_app (goodIn_of _ (by decide +kernel)) ggX8_change_X10_offerAt
set_option maxRecDepth 20000 in
theorem ggX8_change_X11_at : GoodIn wsX8_change wsX11_at := goodIn_ca (goodIn_r _ [11] (by decide +kernel) (by decide +kernel)) (goodIn_sub (fun _ h => List.mem_cons_of_mem _ (List.mem_append_right _ h)) (by decide +kernel))
set_option maxRecDepth 20000 in
theorem gX8_change_X11_at_n86 : GoodIn wsX8_change (wsX11_at) := ggX8_change_X11_at
set_option maxRecDepth 20000 in
theorem ggX8_change_X11_setAt : GoodIn wsX8_change wsX11_setAt := goodIn_ca (goodIn_r _ [13] (by decide +kernel) (by decide +kernel)) (goodIn_sub (fun _ h => List.mem_cons_of_mem _ (List.mem_append_right _ h)) (by decide +kernel))
set_option maxRecDepth 20000 in
theorem gX8_change_X11_setAt_n52 : GoodIn wsX8_change (wsX11_setAt) := ggX8_change_X11_setAt
theorem dX8_change_0 : decode cX8_change 0 = .ok (.aload_n 0, 1) := by decide +kernel
theorem dX8_change_1 : decode cX8_change 1 = .ok (.getfield 12, 3) := by decide +kernel
theorem dX8_change_4 : decode cX8_change 4 = .ok (.iload_n 1, 1) := by decide +kernel
theorem dX8_change_5 : decode cX8_change 5 = .ok (.invokevirtual 137, 3) := by decide +kernel
theorem dX8_change_8 : decode cX8_change 8 = .ok (.istore_n 3, 1) := by decide +kernel
theorem dX8_change_9 : decode cX8_change 9 = .ok (.aload_n 0, 1) := by decide +kernel
theorem dX8_change_10 : decode cX8_change 10 = .ok (.getfield 18, 3) := by decide +kernel
theorem dX8_change_13 : decode cX8_change 13 = .ok (.iload_n 3, 1) := by decide +kernel
theorem dX8_change_14 : decode cX8_change 14 = .ok (.aload_n 0, 1) := by decide +kernel
theorem dX8_change_15 : decode cX8_change 15 = .ok (.getfield 18, 3) := by decide +kernel
theorem dX8_change_18 : decode cX8_change 18 = .ok (.iload_n 3, 1) := by decide +kernel
theorem dX8_change_19 : decode cX8_change 19 = .ok (.invokestatic 86, 3) := by decide +kernel
theorem dX8_change_22 : decode cX8_change 22 = .ok (.iload_n 2, 1) := by decide +kernel
theorem dX8_change_23 : decode cX8_change 23 = .ok (.iadd, 1) := by decide +kernel
theorem dX8_change_24 : decode cX8_change 24 = .ok (.invokestatic 52, 3) := by decide +kernel
theorem dX8_change_27 : decode cX8_change 27 = .ok (.return_, 1) := by decide +kernel
set_option maxRecDepth 20000 in
theorem ggX8_keep_X11_at : GoodIn wsX8_keep wsX11_at := goodIn_ca (goodIn_r _ [7] (by decide +kernel) (by decide +kernel)) (goodIn_sub (fun _ h => List.mem_cons_of_mem _ (List.mem_append_right _ h)) (by decide +kernel))
set_option maxRecDepth 20000 in
theorem gX8_keep_X11_at_n86 : GoodIn wsX8_keep (wsX11_at) := ggX8_keep_X11_at
set_option maxRecDepth 20000 in
theorem ggX8_keep_X11_setAt : GoodIn wsX8_keep wsX11_setAt := goodIn_ca (goodIn_r _ [9] (by decide +kernel) (by decide +kernel)) (goodIn_sub (fun _ h => List.mem_cons_of_mem _ (List.mem_append_right _ h)) (by decide +kernel))
set_option maxRecDepth 20000 in
theorem gX8_keep_X11_setAt_n52 : GoodIn wsX8_keep (wsX11_setAt) := ggX8_keep_X11_setAt
theorem dX8_keep_0 : decode cX8_keep 0 = .ok (.aload_n 0, 1) := by decide +kernel
theorem dX8_keep_1 : decode cX8_keep 1 = .ok (.iload_n 1, 1) := by decide +kernel
theorem dX8_keep_2 : decode cX8_keep 2 = .ok (.putfield 79, 3) := by decide +kernel
theorem dX8_keep_5 : decode cX8_keep 5 = .ok (.aload_n 0, 1) := by decide +kernel
theorem dX8_keep_6 : decode cX8_keep 6 = .ok (.iload_n 2, 1) := by decide +kernel
theorem dX8_keep_7 : decode cX8_keep 7 = .ok (.putfield 146, 3) := by decide +kernel
theorem dX8_keep_10 : decode cX8_keep 10 = .ok (.iconst 0, 1) := by decide +kernel
theorem dX8_keep_11 : decode cX8_keep 11 = .ok (.istore_n 3, 1) := by decide +kernel
theorem dX8_keep_12 : decode cX8_keep 12 = .ok (.iload_n 3, 1) := by decide +kernel
theorem dX8_keep_13 : decode cX8_keep 13 = .ok (.bipush 7, 2) := by decide +kernel
theorem dX8_keep_15 : decode cX8_keep 15 = .ok (.if_icmp .ge 25, 3) := by decide +kernel
theorem dX8_keep_18 : decode cX8_keep 18 = .ok (.aload_n 0, 1) := by decide +kernel
theorem dX8_keep_19 : decode cX8_keep 19 = .ok (.getfield 31, 3) := by decide +kernel
theorem dX8_keep_22 : decode cX8_keep 22 = .ok (.iload_n 3, 1) := by decide +kernel
theorem dX8_keep_23 : decode cX8_keep 23 = .ok (.aload_n 0, 1) := by decide +kernel
theorem dX8_keep_24 : decode cX8_keep 24 = .ok (.getfield 28, 3) := by decide +kernel
theorem dX8_keep_27 : decode cX8_keep 27 = .ok (.iload_n 3, 1) := by decide +kernel
theorem dX8_keep_28 : decode cX8_keep 28 = .ok (.invokestatic 86, 3) := by decide +kernel
theorem dX8_keep_31 : decode cX8_keep 31 = .ok (.invokestatic 52, 3) := by decide +kernel
theorem dX8_keep_34 : decode cX8_keep 34 = .ok (.iinc 3 1, 3) := by decide +kernel
theorem dX8_keep_37 : decode cX8_keep 37 = .ok (.goto (-25), 3) := by decide +kernel
theorem dX8_keep_40 : decode cX8_keep 40 = .ok (.return_, 1) := by decide +kernel
set_option maxRecDepth 20000 in
theorem ggX8_withThresholds_X11_at : GoodIn wsX8_withThresholds wsX11_at := goodIn_ca (goodIn_r _ [4] (by decide +kernel) (by decide +kernel)) (goodIn_sub (fun _ h => List.mem_cons_of_mem _ (List.mem_append_right _ h)) (by decide +kernel))
set_option maxRecDepth 20000 in
theorem gX8_withThresholds_X11_at_n86 : GoodIn wsX8_withThresholds (wsX11_at) := ggX8_withThresholds_X11_at
set_option maxRecDepth 20000 in
theorem ggX8_withThresholds_X8_allowsThreshold : GoodIn wsX8_withThresholds wsX8_allowsThreshold := goodIn_ca (goodIn_r _ [9, 10, 11, 12, 2, 3, 4, 13, 14, 15, 16, 17, 18, 19, 20, 21, 22, 23, 24, 25, 26, 27, 28, 29, 30, 31, 32, 33, 34, 35, 36, 37, 38, 39, 40, 41] (by decide +kernel) (by decide +kernel)) (goodIn_sub (fun _ h => List.mem_cons_of_mem _ (List.mem_append_right _ h)) (by decide +kernel))
set_option maxRecDepth 20000 in
theorem gX8_withThresholds_X8_allowsThreshold : GoodIn wsX8_withThresholds (wsV RX8 149 RX8 yX8_allowsThreshold wsX8_allowsThreshold) := goodIn_app (goodIn_of _ (by decide +kernel)) ggX8_withThresholds_X8_allowsThreshold
theorem dX8_withThresholds_0 : decode cX8_withThresholds 0 = .ok (.iload_n 1, 1) := by decide +kernel
theorem dX8_withThresholds_1 : decode cX8_withThresholds 1 = .ok (.istore_n 3, 1) := by decide +kernel
theorem dX8_withThresholds_2 : decode cX8_withThresholds 2 = .ok (.iconst 0, 1) := by decide +kernel
theorem dX8_withThresholds_3 : decode cX8_withThresholds 3 = .ok (.istore 4, 2) := by decide +kernel
theorem dX8_withThresholds_5 : decode cX8_withThresholds 5 = .ok (.iload 4, 2) := by decide +kernel
theorem dX8_withThresholds_7 : decode cX8_withThresholds 7 = .ok (.bipush 6, 2) := by decide +kernel
theorem dX8_withThresholds_9 : decode cX8_withThresholds 9 = .ok (.if_icmp .ge 38, 3) := by decide +kernel
theorem dX8_withThresholds_12 : decode cX8_withThresholds 12 = .ok (.aload_n 0, 1) := by decide +kernel
theorem dX8_withThresholds_13 : decode cX8_withThresholds 13 = .ok (.getfield 22, 3) := by decide +kernel
theorem dX8_withThresholds_16 : decode cX8_withThresholds 16 = .ok (.iload 4, 2) := by decide +kernel
theorem dX8_withThresholds_18 : decode cX8_withThresholds 18 = .ok (.invokestatic 86, 3) := by decide +kernel
theorem dX8_withThresholds_21 : decode cX8_withThresholds 21 = .ok (.istore 5, 2) := by decide +kernel
theorem dX8_withThresholds_23 : decode cX8_withThresholds 23 = .ok (.aload_n 0, 1) := by decide +kernel
theorem dX8_withThresholds_24 : decode cX8_withThresholds 24 = .ok (.iload 5, 2) := by decide +kernel
theorem dX8_withThresholds_26 : decode cX8_withThresholds 26 = .ok (.iload_n 3, 1) := by decide +kernel
theorem dX8_withThresholds_27 : decode cX8_withThresholds 27 = .ok (.iload_n 2, 1) := by decide +kernel
theorem dX8_withThresholds_28 : decode cX8_withThresholds 28 = .ok (.invokevirtual 149, 3) := by decide +kernel
theorem dX8_withThresholds_31 : decode cX8_withThresholds 31 = .ok (.ifCond .eq 10, 3) := by decide +kernel
theorem dX8_withThresholds_34 : decode cX8_withThresholds 34 = .ok (.iload_n 3, 1) := by decide +kernel
theorem dX8_withThresholds_35 : decode cX8_withThresholds 35 = .ok (.iconst 1, 1) := by decide +kernel
theorem dX8_withThresholds_36 : decode cX8_withThresholds 36 = .ok (.iload 5, 2) := by decide +kernel
theorem dX8_withThresholds_38 : decode cX8_withThresholds 38 = .ok (.ishl, 1) := by decide +kernel
theorem dX8_withThresholds_39 : decode cX8_withThresholds 39 = .ok (.ior, 1) := by decide +kernel
theorem dX8_withThresholds_40 : decode cX8_withThresholds 40 = .ok (.istore_n 3, 1) := by decide +kernel
theorem dX8_withThresholds_41 : decode cX8_withThresholds 41 = .ok (.iinc 4 1, 3) := by decide +kernel
theorem dX8_withThresholds_44 : decode cX8_withThresholds 44 = .ok (.goto (-39), 3) := by decide +kernel
theorem dX8_withThresholds_47 : decode cX8_withThresholds 47 = .ok (.iload_n 3, 1) := by decide +kernel
theorem dX8_withThresholds_48 : decode cX8_withThresholds 48 = .ok (.ireturn, 1) := by decide +kernel
set_option maxRecDepth 20000 in
theorem ggX8_allowsThreshold_X11_at : GoodIn wsX8_allowsThreshold wsX11_at := goodIn_ca (goodIn_r _ [6] (by decide +kernel) (by decide +kernel)) (goodIn_sub (fun _ h => List.mem_cons_of_mem _ (List.mem_append_right _ h)) (by decide +kernel))
set_option maxRecDepth 20000 in
theorem gX8_allowsThreshold_X11_at_n86 : GoodIn wsX8_allowsThreshold (wsX11_at) := ggX8_allowsThreshold_X11_at
set_option maxRecDepth 20000 in
theorem ggX8_allowsThreshold_X6_rivalsOf : GoodIn wsX8_allowsThreshold wsX6_rivalsOf := goodIn_ca (goodIn_r _ [11, 12, 4, 5, 6, 30, 31, 32, 33, 34, 35] (by decide +kernel) (by decide +kernel)) (goodIn_sub (fun _ h => List.mem_cons_of_mem _ (List.mem_append_right _ h)) (by decide +kernel))
set_option maxRecDepth 20000 in
theorem gX8_allowsThreshold_X6_rivalsOf : GoodIn wsX8_allowsThreshold (wsV RX8 143 RX6 yX6_rivalsOf wsX6_rivalsOf) := goodIn_app (goodIn_of _ (by decide +kernel)) ggX8_allowsThreshold_X6_rivalsOf
set_option maxRecDepth 20000 in
theorem ggX8_allowsThreshold_X6_isReachedBy : GoodIn wsX8_allowsThreshold wsX6_isReachedBy := goodIn_ca (goodIn_r _ [16, 17, 4, 5, 6, 30, 31, 32, 33, 34, 35] (by decide +kernel) (by decide +kernel)) (goodIn_sub (fun _ h => List.mem_cons_of_mem _ (List.mem_append_right _ h)) (by decide +kernel))
set_option maxRecDepth 20000 in
theorem gX8_allowsThreshold_X6_isReachedBy : GoodIn wsX8_allowsThreshold (wsV RX8 152 RX6 yX6_isReachedBy wsX6_isReachedBy) := goodIn_app (goodIn_of _ (by decide +kernel)) ggX8_allowsThreshold_X6_isReachedBy
theorem dX8_allowsThreshold_0 : decode cX8_allowsThreshold 0 = .ok (.aload_n 0, 1) := by decide +kernel
theorem dX8_allowsThreshold_1 : decode cX8_allowsThreshold 1 = .ok (.getfield 18, 3) := by decide +kernel
theorem dX8_allowsThreshold_4 : decode cX8_allowsThreshold 4 = .ok (.iload_n 1, 1) := by decide +kernel
theorem dX8_allowsThreshold_5 : decode cX8_allowsThreshold 5 = .ok (.invokestatic 86, 3) := by decide +kernel
theorem dX8_allowsThreshold_8 : decode cX8_allowsThreshold 8 = .ok (.ifCond .le 37, 3) := by decide +kernel
theorem dX8_allowsThreshold_11 : decode cX8_allowsThreshold 11 = .ok (.aload_n 0, 1) := by decide +kernel
theorem dX8_allowsThreshold_12 : decode cX8_allowsThreshold 12 = .ok (.getfield 38, 3) := by decide +kernel
theorem dX8_allowsThreshold_15 : decode cX8_allowsThreshold 15 = .ok (.iload_n 1, 1) := by decide +kernel
theorem dX8_allowsThreshold_16 : decode cX8_allowsThreshold 16 = .ok (.invokevirtual 143, 3) := by decide +kernel
theorem dX8_allowsThreshold_19 : decode cX8_allowsThreshold 19 = .ok (.iload_n 2, 1) := by decide +kernel
theorem dX8_allowsThreshold_20 : decode cX8_allowsThreshold 20 = .ok (.iand, 1) := by decide +kernel
theorem dX8_allowsThreshold_21 : decode cX8_allowsThreshold 21 = .ok (.ifCond .ne 24, 3) := by decide +kernel
theorem dX8_allowsThreshold_24 : decode cX8_allowsThreshold 24 = .ok (.aload_n 0, 1) := by decide +kernel
theorem dX8_allowsThreshold_25 : decode cX8_allowsThreshold 25 = .ok (.getfield 38, 3) := by decide +kernel
theorem dX8_allowsThreshold_28 : decode cX8_allowsThreshold 28 = .ok (.iload_n 1, 1) := by decide +kernel
theorem dX8_allowsThreshold_29 : decode cX8_allowsThreshold 29 = .ok (.aload_n 0, 1) := by decide +kernel
theorem dX8_allowsThreshold_30 : decode cX8_allowsThreshold 30 = .ok (.getfield 66, 3) := by decide +kernel
theorem dX8_allowsThreshold_33 : decode cX8_allowsThreshold 33 = .ok (.iload_n 3, 1) := by decide +kernel
theorem dX8_allowsThreshold_34 : decode cX8_allowsThreshold 34 = .ok (.isub, 1) := by decide +kernel
theorem dX8_allowsThreshold_35 : decode cX8_allowsThreshold 35 = .ok (.invokevirtual 152, 3) := by decide +kernel
theorem dX8_allowsThreshold_38 : decode cX8_allowsThreshold 38 = .ok (.ifCond .eq 7, 3) := by decide +kernel
theorem dX8_allowsThreshold_41 : decode cX8_allowsThreshold 41 = .ok (.iconst 1, 1) := by decide +kernel
theorem dX8_allowsThreshold_42 : decode cX8_allowsThreshold 42 = .ok (.goto 4, 3) := by decide +kernel
theorem dX8_allowsThreshold_45 : decode cX8_allowsThreshold 45 = .ok (.iconst 0, 1) := by decide +kernel
theorem dX8_allowsThreshold_46 : decode cX8_allowsThreshold 46 = .ok (.ireturn, 1) := by decide +kernel
set_option maxRecDepth 20000 in
theorem ggX8_amountOf_X6_amountOf : GoodIn wsX8_amountOf wsX6_amountOf := goodIn_ca (goodIn_r _ [6, 7, 8, 9, 10, 23, 24, 25, 26, 27, 28] (by decide +kernel) (by decide +kernel)) (goodIn_sub (fun _ h => List.mem_cons_of_mem _ (List.mem_append_right _ h)) (by decide +kernel))
set_option maxRecDepth 20000 in
theorem gX8_amountOf_X6_amountOf : GoodIn wsX8_amountOf (wsV RX8 90 RX6 yX6_amountOf wsX6_amountOf) := goodIn_app (goodIn_of _ (by decide +kernel)) ggX8_amountOf_X6_amountOf
theorem dX8_amountOf_0 : decode cX8_amountOf 0 = .ok (.iconst 0, 1) := by decide +kernel
theorem dX8_amountOf_1 : decode cX8_amountOf 1 = .ok (.istore_n 2, 1) := by decide +kernel
theorem dX8_amountOf_2 : decode cX8_amountOf 2 = .ok (.iconst 0, 1) := by decide +kernel
theorem dX8_amountOf_3 : decode cX8_amountOf 3 = .ok (.istore_n 3, 1) := by decide +kernel
theorem dX8_amountOf_4 : decode cX8_amountOf 4 = .ok (.iload_n 3, 1) := by decide +kernel
theorem dX8_amountOf_5 : decode cX8_amountOf 5 = .ok (.bipush 6, 2) := by decide +kernel
theorem dX8_amountOf_7 : decode cX8_amountOf 7 = .ok (.if_icmp .ge 28, 3) := by decide +kernel
theorem dX8_amountOf_10 : decode cX8_amountOf 10 = .ok (.iload_n 1, 1) := by decide +kernel
theorem dX8_amountOf_11 : decode cX8_amountOf 11 = .ok (.iconst 1, 1) := by decide +kernel
theorem dX8_amountOf_12 : decode cX8_amountOf 12 = .ok (.iload_n 3, 1) := by decide +kernel
theorem dX8_amountOf_13 : decode cX8_amountOf 13 = .ok (.ishl, 1) := by decide +kernel
theorem dX8_amountOf_14 : decode cX8_amountOf 14 = .ok (.iand, 1) := by decide +kernel
theorem dX8_amountOf_15 : decode cX8_amountOf 15 = .ok (.ifCond .eq 14, 3) := by decide +kernel
theorem dX8_amountOf_18 : decode cX8_amountOf 18 = .ok (.iload_n 2, 1) := by decide +kernel
theorem dX8_amountOf_19 : decode cX8_amountOf 19 = .ok (.aload_n 0, 1) := by decide +kernel
theorem dX8_amountOf_20 : decode cX8_amountOf 20 = .ok (.getfield 38, 3) := by decide +kernel
theorem dX8_amountOf_23 : decode cX8_amountOf 23 = .ok (.iload_n 3, 1) := by decide +kernel
theorem dX8_amountOf_24 : decode cX8_amountOf 24 = .ok (.invokevirtual 90, 3) := by decide +kernel
theorem dX8_amountOf_27 : decode cX8_amountOf 27 = .ok (.iadd, 1) := by decide +kernel
theorem dX8_amountOf_28 : decode cX8_amountOf 28 = .ok (.istore_n 2, 1) := by decide +kernel
theorem dX8_amountOf_29 : decode cX8_amountOf 29 = .ok (.iinc 3 1, 3) := by decide +kernel
theorem dX8_amountOf_32 : decode cX8_amountOf 32 = .ok (.goto (-28), 3) := by decide +kernel
theorem dX8_amountOf_35 : decode cX8_amountOf 35 = .ok (.iload_n 2, 1) := by decide +kernel
theorem dX8_amountOf_36 : decode cX8_amountOf 36 = .ok (.ireturn, 1) := by decide +kernel
set_option maxRecDepth 20000 in
theorem ggX8_discountByTrying_X0_mask : GoodIn wsX8_discountByTrying wsX0_mask := goodIn_r _ [7, 8, 9, 10, 11, 96, 97, 98, 99, 100] (by decide +kernel) (by decide +kernel)
set_option maxRecDepth 20000 in
theorem gX8_discountByTrying_X0_mask : GoodIn wsX8_discountByTrying (wsV RX8 56 RX0 yX0_mask wsX0_mask) := goodIn_app (goodIn_of _ (by decide +kernel)) ggX8_discountByTrying_X0_mask
set_option maxRecDepth 20000 in
theorem ggX8_discountByTrying_X8_mostByTrying : GoodIn wsX8_discountByTrying wsX8_mostByTrying := goodIn_ca (goodIn_r _ [16, 17, 18, 19, 20, 21, 22, 23, 24, 15, 25, 26, 27, 28, 29, 30, 31, 32, 33, 10, 34, 35, 36, 37, 38, 39, 40, 41, 42, 43, 44, 45, 46, 47, 48, 49, 50, 9, 11, 12, 13, 14, 51, 52, 53, 54, 55, 56, 57, 58, 59, 60, 61, 62, 63, 64, 65, 66, 67, 68, 69, 70, 71, 72, 73, 74, 75, 76, 77, 78, 79, 80, 81, 82, 83, 84, 85, 86, 87, 88, 89, 90, 91, 92, 93, 94, 95, 101, 102, 103, 104, 105, 106, 107, 108, 109, 110, 111] (by decide +kernel) (by decide +kernel)) (goodIn_sub (fun _ h => List.mem_cons_of_mem _ (List.mem_append_right _ h)) (by decide +kernel))
set_option maxRecDepth 20000 in
theorem gX8_discountByTrying_X8_mostByTrying : GoodIn wsX8_discountByTrying (wsV RX8 155 RX8 yX8_mostByTrying wsX8_mostByTrying) := goodIn_app (goodIn_of _ (by decide +kernel)) ggX8_discountByTrying_X8_mostByTrying
theorem dX8_discountByTrying_0 : decode cX8_discountByTrying 0 = .ok (.aload_n 0, 1) := by decide +kernel
theorem dX8_discountByTrying_1 : decode cX8_discountByTrying 1 = .ok (.getfield 76, 3) := by decide +kernel
theorem dX8_discountByTrying_4 : decode cX8_discountByTrying 4 = .ok (.iconst (-1), 1) := by decide +kernel
theorem dX8_discountByTrying_5 : decode cX8_discountByTrying 5 = .ok (.if_icmp .ne 21, 3) := by decide +kernel
theorem dX8_discountByTrying_8 : decode cX8_discountByTrying 8 = .ok (.aload_n 0, 1) := by decide +kernel
theorem dX8_discountByTrying_9 : decode cX8_discountByTrying 9 = .ok (.aload_n 0, 1) := by decide +kernel
theorem dX8_discountByTrying_10 : decode cX8_discountByTrying 10 = .ok (.iconst 0, 1) := by decide +kernel
theorem dX8_discountByTrying_11 : decode cX8_discountByTrying 11 = .ok (.aload_n 0, 1) := by decide +kernel
theorem dX8_discountByTrying_12 : decode cX8_discountByTrying 12 = .ok (.getfield 34, 3) := by decide +kernel
theorem dX8_discountByTrying_15 : decode cX8_discountByTrying 15 = .ok (.invokevirtual 56, 3) := by decide +kernel
theorem dX8_discountByTrying_18 : decode cX8_discountByTrying 18 = .ok (.iconst 0, 1) := by decide +kernel
theorem dX8_discountByTrying_19 : decode cX8_discountByTrying 19 = .ok (.iconst 0, 1) := by decide +kernel
theorem dX8_discountByTrying_20 : decode cX8_discountByTrying 20 = .ok (.invokevirtual 155, 3) := by decide +kernel
theorem dX8_discountByTrying_23 : decode cX8_discountByTrying 23 = .ok (.putfield 76, 3) := by decide +kernel
theorem dX8_discountByTrying_26 : decode cX8_discountByTrying 26 = .ok (.aload_n 0, 1) := by decide +kernel
theorem dX8_discountByTrying_27 : decode cX8_discountByTrying 27 = .ok (.getfield 76, 3) := by decide +kernel
theorem dX8_discountByTrying_30 : decode cX8_discountByTrying 30 = .ok (.ireturn, 1) := by decide +kernel
set_option maxRecDepth 20000 in
theorem ggX8_mostByTrying_X8_mostOfThresholds : GoodIn wsX8_mostByTrying wsX8_mostOfThresholds := goodIn_ca (goodIn_r _ [10, 11, 2, 3, 4, 5, 6, 7, 8, 9, 12, 13, 14, 15, 16, 17, 18, 19, 20, 21, 22, 23, 24, 25, 26, 27, 28, 29, 30, 31, 32, 33, 34, 35, 36, 75, 76, 77, 78, 79, 80, 81, 82, 83, 84, 85, 86, 87, 88, 89, 90, 91, 92] (by decide +kernel) (by decide +kernel)) (goodIn_sub (fun _ h => List.mem_cons_of_mem _ (List.mem_append_right _ h)) (by decide +kernel))
set_option maxRecDepth 20000 in
theorem gX8_mostByTrying_X8_mostOfThresholds : GoodIn wsX8_mostByTrying (wsV RX8 159 RX8 yX8_mostOfThresholds wsX8_mostOfThresholds) := goodIn_app (goodIn_of _ (by decide +kernel)) ggX8_mostByTrying_X8_mostOfThresholds
set_option maxRecDepth 20000 in
theorem ggX8_mostByTrying_X11_bitOf : GoodIn wsX8_mostByTrying wsX11_bitOf := goodIn_r _ [38] (by decide +kernel) (by decide +kernel)
set_option maxRecDepth 20000 in
theorem gX8_mostByTrying_X11_bitOf_n140 : GoodIn wsX8_mostByTrying (wsX11_bitOf) := ggX8_mostByTrying_X11_bitOf
set_option maxRecDepth 20000 in
theorem ggX8_mostByTrying_X8_mostByTrying : GoodIn wsX8_mostByTrying wsX8_mostByTrying := goodIn_ca (goodIn_r _ [0, 1, 2, 3, 4, 5, 6, 7, 8, 9, 10, 11, 12, 13, 14, 15, 16, 17, 18, 19, 20, 21, 22, 23, 24, 25, 26, 27, 28, 29, 30, 31, 32, 33, 34, 35, 36, 37, 38, 39, 40, 41, 42, 43, 44, 45, 46, 47, 48, 49, 50, 51, 52, 53, 54, 55, 56, 57, 58, 59, 60, 61, 62, 63, 64, 65, 66, 67, 68, 69, 70, 71, 72, 73, 74, 75, 76, 77, 78, 79, 80, 81, 82, 83, 84, 85, 86, 87, 88, 89, 90, 91, 92, 93, 94, 95, 96, 97] (by decide +kernel) (by decide +kernel)) (goodIn_sub (fun _ h => List.mem_cons_of_mem _ (List.mem_append_right _ h)) (by decide +kernel))
set_option maxRecDepth 20000 in
theorem gX8_mostByTrying_X8_mostByTrying : GoodIn wsX8_mostByTrying (wsV RX8 155 RX8 yX8_mostByTrying wsX8_mostByTrying) := goodIn_app (goodIn_of _ (by decide +kernel)) ggX8_mostByTrying_X8_mostByTrying
set_option maxRecDepth 20000 in
theorem ggX8_mostByTrying_X11_isIn : GoodIn wsX8_mostByTrying wsX11_isIn := goodIn_r _ [43] (by decide +kernel) (by decide +kernel)
set_option maxRecDepth 20000 in
theorem gX8_mostByTrying_X11_isIn_n107 : GoodIn wsX8_mostByTrying (wsX11_isIn) := ggX8_mostByTrying_X11_isIn
set_option maxRecDepth 20000 in
theorem ggX8_mostByTrying_X10_startOf : GoodIn wsX8_mostByTrying wsX10_startOf := goodIn_ca (goodIn_r _ [48, 49, 18, 19, 20, 93, 94, 95, 96, 97] (by decide +kernel) (by decide +kernel)) (goodIn_sub (fun _ h => List.mem_cons_of_mem _ (List.mem_append_right _ h)) (by decide +kernel))
set_option maxRecDepth 20000 in
theorem gX8_mostByTrying_X10_startOf : GoodIn wsX8_mostByTrying (wsV RX8 127 RX10 yX10_startOf wsX10_startOf) := goodIn_app (goodIn_of _ (by decide +kernel)) ggX8_mostByTrying_X10_startOf
set_option maxRecDepth 20000 in
theorem ggX8_mostByTrying_X8_fits : GoodIn wsX8_mostByTrying wsX8_fits := goodIn_ca (goodIn_r _ [53, 1, 16, 11, 54, 55, 56, 47, 57, 58, 18, 19, 20, 59, 60, 61, 62, 63, 21, 22, 23, 24, 25, 26, 75, 76, 77, 78, 79, 80, 81, 82, 83, 84, 85, 86, 93, 94, 95, 96, 97, 87, 88, 89, 90, 91, 92] (by decide +kernel) (by decide +kernel)) (goodIn_sub (fun _ h => List.mem_cons_of_mem _ (List.mem_append_right _ h)) (by decide +kernel))
set_option maxRecDepth 20000 in
theorem gX8_mostByTrying_X8_fits : GoodIn wsX8_mostByTrying (wsV RX8 130 RX8 yX8_fits wsX8_fits) := goodIn_app (goodIn_of _ (by decide +kernel)) ggX8_mostByTrying_X8_fits
set_option maxRecDepth 20000 in
theorem ggX8_mostByTrying_X8_change : GoodIn wsX8_mostByTrying wsX8_change := goodIn_ca (goodIn_r _ [67, 1, 16, 54, 55, 56, 47, 57, 58, 18, 19, 20, 68, 69, 75, 76, 77, 78, 79, 80, 81, 82, 83, 84, 85, 86, 93, 94, 95, 96, 97] (by decide +kernel) (by decide +kernel)) (goodIn_sub (fun _ h => List.mem_cons_of_mem _ (List.mem_append_right _ h)) (by decide +kernel))
set_option maxRecDepth 20000 in
theorem gX8_mostByTrying_X8_change : GoodIn wsX8_mostByTrying (wsV RX8 134 RX8 yX8_change wsX8_change) := goodIn_app (goodIn_of _ (by decide +kernel)) ggX8_mostByTrying_X8_change
set_option maxRecDepth 20000 in
theorem ggX8_mostByTrying_X10_maskAt : GoodIn wsX8_mostByTrying wsX10_maskAt := goodIn_ca (goodIn_r _ [62, 63, 18, 19, 20, 93, 94, 95, 96, 97] (by decide +kernel) (by decide +kernel)) (goodIn_sub (fun _ h => List.mem_cons_of_mem _ (List.mem_append_right _ h)) (by decide +kernel))
set_option maxRecDepth 20000 in
theorem gX8_mostByTrying_X10_maskAt : GoodIn wsX8_mostByTrying (wsV RX8 96 RX10 yX10_maskAt wsX10_maskAt) := goodIn_app (goodIn_of _ (by decide +kernel)) ggX8_mostByTrying_X10_maskAt
set_option maxRecDepth 20000 in
theorem ggX8_mostByTrying_X10_discountAt : GoodIn wsX8_mostByTrying wsX10_discountAt := goodIn_ca (goodIn_r _ [73, 74, 18, 19, 20, 93, 94, 95, 96, 97] (by decide +kernel) (by decide +kernel)) (goodIn_sub (fun _ h => List.mem_cons_of_mem _ (List.mem_append_right _ h)) (by decide +kernel))
set_option maxRecDepth 20000 in
theorem gX8_mostByTrying_X10_discountAt : GoodIn wsX8_mostByTrying (wsV RX8 104 RX10 yX10_discountAt wsX10_discountAt) := goodIn_app (goodIn_of _ (by decide +kernel)) ggX8_mostByTrying_X10_discountAt
set_option maxRecDepth 20000 in
theorem ggX8_mostByTrying_X10_offerAt : GoodIn wsX8_mostByTrying wsX10_offerAt := goodIn_ca (goodIn_r _ [57, 58, 18, 19, 20, 93, 94, 95, 96, 97] (by decide +kernel) (by decide +kernel)) (goodIn_sub (fun _ h => List.mem_cons_of_mem _ (List.mem_append_right _ h)) (by decide +kernel))
set_option maxRecDepth 20000 in
theorem gX8_mostByTrying_X10_offerAt : GoodIn wsX8_mostByTrying (wsV RX8 137 RX10 yX10_offerAt wsX10_offerAt) := goodIn_app (goodIn_of _ (by decide +kernel)) ggX8_mostByTrying_X10_offerAt
theorem dX8_mostByTrying_0 : decode cX8_mostByTrying 0 = .ok (.iload_n 1, 1) := by decide +kernel
theorem dX8_mostByTrying_1 : decode cX8_mostByTrying 1 = .ok (.bipush 7, 2) := by decide +kernel
theorem dX8_mostByTrying_3 : decode cX8_mostByTrying 3 = .ok (.if_icmp .lt 14, 3) := by decide +kernel
theorem dX8_mostByTrying_6 : decode cX8_mostByTrying 6 = .ok (.iload_n 3, 1) := by decide +kernel
theorem dX8_mostByTrying_7 : decode cX8_mostByTrying 7 = .ok (.aload_n 0, 1) := by decide +kernel
theorem dX8_mostByTrying_8 : decode cX8_mostByTrying 8 = .ok (.iconst 0, 1) := by decide +kernel
theorem dX8_mostByTrying_9 : decode cX8_mostByTrying 9 = .ok (.iload 4, 2) := by decide +kernel
theorem dX8_mostByTrying_11 : decode cX8_mostByTrying 11 = .ok (.iload_n 3, 1) := by decide +kernel
theorem dX8_mostByTrying_12 : decode cX8_mostByTrying 12 = .ok (.invokevirtual 159, 3) := by decide +kernel
theorem dX8_mostByTrying_15 : decode cX8_mostByTrying 15 = .ok (.iadd, 1) := by decide +kernel
theorem dX8_mostByTrying_16 : decode cX8_mostByTrying 16 = .ok (.ireturn, 1) := by decide +kernel
theorem dX8_mostByTrying_17 : decode cX8_mostByTrying 17 = .ok (.aload_n 0, 1) := by decide +kernel
theorem dX8_mostByTrying_18 : decode cX8_mostByTrying 18 = .ok (.iload_n 1, 1) := by decide +kernel
theorem dX8_mostByTrying_19 : decode cX8_mostByTrying 19 = .ok (.iconst 1, 1) := by decide +kernel
theorem dX8_mostByTrying_20 : decode cX8_mostByTrying 20 = .ok (.iadd, 1) := by decide +kernel
theorem dX8_mostByTrying_21 : decode cX8_mostByTrying 21 = .ok (.iload_n 2, 1) := by decide +kernel
theorem dX8_mostByTrying_22 : decode cX8_mostByTrying 22 = .ok (.iload_n 1, 1) := by decide +kernel
theorem dX8_mostByTrying_23 : decode cX8_mostByTrying 23 = .ok (.invokestatic 140, 3) := by decide +kernel
theorem dX8_mostByTrying_26 : decode cX8_mostByTrying 26 = .ok (.iconst (-1), 1) := by decide +kernel
theorem dX8_mostByTrying_27 : decode cX8_mostByTrying 27 = .ok (.ixor, 1) := by decide +kernel
theorem dX8_mostByTrying_28 : decode cX8_mostByTrying 28 = .ok (.iand, 1) := by decide +kernel
theorem dX8_mostByTrying_29 : decode cX8_mostByTrying 29 = .ok (.iload_n 3, 1) := by decide +kernel
theorem dX8_mostByTrying_30 : decode cX8_mostByTrying 30 = .ok (.iload 4, 2) := by decide +kernel
theorem dX8_mostByTrying_32 : decode cX8_mostByTrying 32 = .ok (.invokevirtual 155, 3) := by decide +kernel
theorem dX8_mostByTrying_35 : decode cX8_mostByTrying 35 = .ok (.istore 5, 2) := by decide +kernel
theorem dX8_mostByTrying_37 : decode cX8_mostByTrying 37 = .ok (.iload_n 2, 1) := by decide +kernel
theorem dX8_mostByTrying_38 : decode cX8_mostByTrying 38 = .ok (.iload_n 1, 1) := by decide +kernel
theorem dX8_mostByTrying_39 : decode cX8_mostByTrying 39 = .ok (.invokestatic 107, 3) := by decide +kernel
theorem dX8_mostByTrying_42 : decode cX8_mostByTrying 42 = .ok (.ifCond .eq 116, 3) := by decide +kernel
theorem dX8_mostByTrying_45 : decode cX8_mostByTrying 45 = .ok (.aload_n 0, 1) := by decide +kernel
theorem dX8_mostByTrying_46 : decode cX8_mostByTrying 46 = .ok (.getfield 12, 3) := by decide +kernel
theorem dX8_mostByTrying_49 : decode cX8_mostByTrying 49 = .ok (.iload_n 1, 1) := by decide +kernel
theorem dX8_mostByTrying_50 : decode cX8_mostByTrying 50 = .ok (.iconst 1, 1) := by decide +kernel
theorem dX8_mostByTrying_51 : decode cX8_mostByTrying 51 = .ok (.iadd, 1) := by decide +kernel
theorem dX8_mostByTrying_52 : decode cX8_mostByTrying 52 = .ok (.invokevirtual 127, 3) := by decide +kernel
theorem dX8_mostByTrying_55 : decode cX8_mostByTrying 55 = .ok (.istore 6, 2) := by decide +kernel
theorem dX8_mostByTrying_57 : decode cX8_mostByTrying 57 = .ok (.aload_n 0, 1) := by decide +kernel
theorem dX8_mostByTrying_58 : decode cX8_mostByTrying 58 = .ok (.getfield 12, 3) := by decide +kernel
theorem dX8_mostByTrying_61 : decode cX8_mostByTrying 61 = .ok (.iload_n 1, 1) := by decide +kernel
theorem dX8_mostByTrying_62 : decode cX8_mostByTrying 62 = .ok (.invokevirtual 127, 3) := by decide +kernel
theorem dX8_mostByTrying_65 : decode cX8_mostByTrying 65 = .ok (.istore 7, 2) := by decide +kernel
theorem dX8_mostByTrying_67 : decode cX8_mostByTrying 67 = .ok (.iload 7, 2) := by decide +kernel
theorem dX8_mostByTrying_69 : decode cX8_mostByTrying 69 = .ok (.iload 6, 2) := by decide +kernel
theorem dX8_mostByTrying_71 : decode cX8_mostByTrying 71 = .ok (.if_icmp .ge 87, 3) := by decide +kernel
theorem dX8_mostByTrying_74 : decode cX8_mostByTrying 74 = .ok (.aload_n 0, 1) := by decide +kernel
theorem dX8_mostByTrying_75 : decode cX8_mostByTrying 75 = .ok (.iload 7, 2) := by decide +kernel
theorem dX8_mostByTrying_77 : decode cX8_mostByTrying 77 = .ok (.iload_n 2, 1) := by decide +kernel
theorem dX8_mostByTrying_78 : decode cX8_mostByTrying 78 = .ok (.iload 4, 2) := by decide +kernel
theorem dX8_mostByTrying_80 : decode cX8_mostByTrying 80 = .ok (.invokevirtual 130, 3) := by decide +kernel
theorem dX8_mostByTrying_83 : decode cX8_mostByTrying 83 = .ok (.ifCond .eq 69, 3) := by decide +kernel
theorem dX8_mostByTrying_86 : decode cX8_mostByTrying 86 = .ok (.aload_n 0, 1) := by decide +kernel
theorem dX8_mostByTrying_87 : decode cX8_mostByTrying 87 = .ok (.iload 7, 2) := by decide +kernel
theorem dX8_mostByTrying_89 : decode cX8_mostByTrying 89 = .ok (.iconst (-1), 1) := by decide +kernel
theorem dX8_mostByTrying_90 : decode cX8_mostByTrying 90 = .ok (.invokevirtual 134, 3) := by decide +kernel
theorem dX8_mostByTrying_93 : decode cX8_mostByTrying 93 = .ok (.iload 5, 2) := by decide +kernel
theorem dX8_mostByTrying_95 : decode cX8_mostByTrying 95 = .ok (.aload_n 0, 1) := by decide +kernel
theorem dX8_mostByTrying_96 : decode cX8_mostByTrying 96 = .ok (.iload_n 1, 1) := by decide +kernel
theorem dX8_mostByTrying_97 : decode cX8_mostByTrying 97 = .ok (.iconst 1, 1) := by decide +kernel
theorem dX8_mostByTrying_98 : decode cX8_mostByTrying 98 = .ok (.iadd, 1) := by decide +kernel
theorem dX8_mostByTrying_99 : decode cX8_mostByTrying 99 = .ok (.iload_n 2, 1) := by decide +kernel
theorem dX8_mostByTrying_100 : decode cX8_mostByTrying 100 = .ok (.aload_n 0, 1) := by decide +kernel
theorem dX8_mostByTrying_101 : decode cX8_mostByTrying 101 = .ok (.getfield 12, 3) := by decide +kernel
theorem dX8_mostByTrying_104 : decode cX8_mostByTrying 104 = .ok (.iload 7, 2) := by decide +kernel
theorem dX8_mostByTrying_106 : decode cX8_mostByTrying 106 = .ok (.invokevirtual 96, 3) := by decide +kernel
theorem dX8_mostByTrying_109 : decode cX8_mostByTrying 109 = .ok (.iconst (-1), 1) := by decide +kernel
theorem dX8_mostByTrying_110 : decode cX8_mostByTrying 110 = .ok (.ixor, 1) := by decide +kernel
theorem dX8_mostByTrying_111 : decode cX8_mostByTrying 111 = .ok (.iand, 1) := by decide +kernel
theorem dX8_mostByTrying_112 : decode cX8_mostByTrying 112 = .ok (.iload_n 3, 1) := by decide +kernel
theorem dX8_mostByTrying_113 : decode cX8_mostByTrying 113 = .ok (.aload_n 0, 1) := by decide +kernel
theorem dX8_mostByTrying_114 : decode cX8_mostByTrying 114 = .ok (.getfield 12, 3) := by decide +kernel
theorem dX8_mostByTrying_117 : decode cX8_mostByTrying 117 = .ok (.iload 7, 2) := by decide +kernel
theorem dX8_mostByTrying_119 : decode cX8_mostByTrying 119 = .ok (.invokevirtual 104, 3) := by decide +kernel
theorem dX8_mostByTrying_122 : decode cX8_mostByTrying 122 = .ok (.iadd, 1) := by decide +kernel
theorem dX8_mostByTrying_123 : decode cX8_mostByTrying 123 = .ok (.iload 4, 2) := by decide +kernel
theorem dX8_mostByTrying_125 : decode cX8_mostByTrying 125 = .ok (.iconst 1, 1) := by decide +kernel
theorem dX8_mostByTrying_126 : decode cX8_mostByTrying 126 = .ok (.aload_n 0, 1) := by decide +kernel
theorem dX8_mostByTrying_127 : decode cX8_mostByTrying 127 = .ok (.getfield 12, 3) := by decide +kernel
theorem dX8_mostByTrying_130 : decode cX8_mostByTrying 130 = .ok (.iload 7, 2) := by decide +kernel
theorem dX8_mostByTrying_132 : decode cX8_mostByTrying 132 = .ok (.invokevirtual 137, 3) := by decide +kernel
theorem dX8_mostByTrying_135 : decode cX8_mostByTrying 135 = .ok (.ishl, 1) := by decide +kernel
theorem dX8_mostByTrying_136 : decode cX8_mostByTrying 136 = .ok (.ior, 1) := by decide +kernel
theorem dX8_mostByTrying_137 : decode cX8_mostByTrying 137 = .ok (.invokevirtual 155, 3) := by decide +kernel
theorem dX8_mostByTrying_140 : decode cX8_mostByTrying 140 = .ok (.invokestatic 111, 3) := by decide +kernel
theorem dX8_mostByTrying_143 : decode cX8_mostByTrying 143 = .ok (.istore 5, 2) := by decide +kernel
theorem dX8_mostByTrying_145 : decode cX8_mostByTrying 145 = .ok (.aload_n 0, 1) := by decide +kernel
theorem dX8_mostByTrying_146 : decode cX8_mostByTrying 146 = .ok (.iload 7, 2) := by decide +kernel
theorem dX8_mostByTrying_148 : decode cX8_mostByTrying 148 = .ok (.iconst 1, 1) := by decide +kernel
theorem dX8_mostByTrying_149 : decode cX8_mostByTrying 149 = .ok (.invokevirtual 134, 3) := by decide +kernel
theorem dX8_mostByTrying_152 : decode cX8_mostByTrying 152 = .ok (.iinc 7 1, 3) := by decide +kernel
theorem dX8_mostByTrying_155 : decode cX8_mostByTrying 155 = .ok (.goto (-88), 3) := by decide +kernel
theorem dX8_mostByTrying_158 : decode cX8_mostByTrying 158 = .ok (.iload 5, 2) := by decide +kernel
theorem dX8_mostByTrying_160 : decode cX8_mostByTrying 160 = .ok (.ireturn, 1) := by decide +kernel
set_option maxRecDepth 20000 in
theorem ggX8_mostOfThresholds_X8_mostOfThresholds : GoodIn wsX8_mostOfThresholds wsX8_mostOfThresholds := goodIn_ca (goodIn_r _ [0, 1, 2, 3, 4, 5, 6, 7, 8, 9, 10, 11, 12, 13, 14, 15, 16, 17, 18, 19, 20, 21, 22, 23, 24, 25, 26, 27, 28, 29, 30, 31, 32, 33, 34, 35, 36, 37, 38, 39, 40, 41, 42, 43, 44, 45, 46, 47, 48, 49, 50, 51, 52] (by decide +kernel) (by decide +kernel)) (goodIn_sub (fun _ h => List.mem_cons_of_mem _ (List.mem_append_right _ h)) (by decide +kernel))
set_option maxRecDepth 20000 in
theorem gX8_mostOfThresholds_X8_mostOfThresholds : GoodIn wsX8_mostOfThresholds (wsV RX8 159 RX8 yX8_mostOfThresholds wsX8_mostOfThresholds) := goodIn_app (goodIn_of _ (by decide +kernel)) ggX8_mostOfThresholds_X8_mostOfThresholds
set_option maxRecDepth 20000 in
theorem ggX8_mostOfThresholds_X8_allowsThreshold : GoodIn wsX8_mostOfThresholds wsX8_allowsThreshold := goodIn_ca (goodIn_r _ [13, 14, 1, 15, 16, 17, 18, 19, 20, 21, 22, 23, 24, 25, 26, 27, 28, 29, 35, 36, 37, 38, 39, 40, 41, 42, 43, 44, 45, 46, 47, 48, 49, 50, 51, 52] (by decide +kernel) (by decide +kernel)) (goodIn_sub (fun _ h => List.mem_cons_of_mem _ (List.mem_append_right _ h)) (by decide +kernel))
set_option maxRecDepth 20000 in
theorem gX8_mostOfThresholds_X8_allowsThreshold : GoodIn wsX8_mostOfThresholds (wsV RX8 149 RX8 yX8_allowsThreshold wsX8_allowsThreshold) := goodIn_app (goodIn_of _ (by decide +kernel)) ggX8_mostOfThresholds_X8_allowsThreshold
set_option maxRecDepth 20000 in
theorem ggX8_mostOfThresholds_X6_amountOf : GoodIn wsX8_mostOfThresholds wsX6_amountOf := goodIn_ca (goodIn_r _ [33, 34, 16, 17, 18, 47, 48, 49, 50, 51, 52] (by decide +kernel) (by decide +kernel)) (goodIn_sub (fun _ h => List.mem_cons_of_mem _ (List.mem_append_right _ h)) (by decide +kernel))
set_option maxRecDepth 20000 in
theorem gX8_mostOfThresholds_X6_amountOf : GoodIn wsX8_mostOfThresholds (wsV RX8 90 RX6 yX6_amountOf wsX6_amountOf) := goodIn_app (goodIn_of _ (by decide +kernel)) ggX8_mostOfThresholds_X6_amountOf
theorem dX8_mostOfThresholds_0 : decode cX8_mostOfThresholds 0 = .ok (.iload_n 1, 1) := by decide +kernel
theorem dX8_mostOfThresholds_1 : decode cX8_mostOfThresholds 1 = .ok (.bipush 6, 2) := by decide +kernel
theorem dX8_mostOfThresholds_3 : decode cX8_mostOfThresholds 3 = .ok (.if_icmp .lt 5, 3) := by decide +kernel
theorem dX8_mostOfThresholds_6 : decode cX8_mostOfThresholds 6 = .ok (.iconst 0, 1) := by decide +kernel
theorem dX8_mostOfThresholds_7 : decode cX8_mostOfThresholds 7 = .ok (.ireturn, 1) := by decide +kernel
theorem dX8_mostOfThresholds_8 : decode cX8_mostOfThresholds 8 = .ok (.aload_n 0, 1) := by decide +kernel
theorem dX8_mostOfThresholds_9 : decode cX8_mostOfThresholds 9 = .ok (.iload_n 1, 1) := by decide +kernel
theorem dX8_mostOfThresholds_10 : decode cX8_mostOfThresholds 10 = .ok (.iconst 1, 1) := by decide +kernel
theorem dX8_mostOfThresholds_11 : decode cX8_mostOfThresholds 11 = .ok (.iadd, 1) := by decide +kernel
theorem dX8_mostOfThresholds_12 : decode cX8_mostOfThresholds 12 = .ok (.iload_n 2, 1) := by decide +kernel
theorem dX8_mostOfThresholds_13 : decode cX8_mostOfThresholds 13 = .ok (.iload_n 3, 1) := by decide +kernel
theorem dX8_mostOfThresholds_14 : decode cX8_mostOfThresholds 14 = .ok (.invokevirtual 159, 3) := by decide +kernel
theorem dX8_mostOfThresholds_17 : decode cX8_mostOfThresholds 17 = .ok (.istore 4, 2) := by decide +kernel
theorem dX8_mostOfThresholds_19 : decode cX8_mostOfThresholds 19 = .ok (.aload_n 0, 1) := by decide +kernel
theorem dX8_mostOfThresholds_20 : decode cX8_mostOfThresholds 20 = .ok (.iload_n 1, 1) := by decide +kernel
theorem dX8_mostOfThresholds_21 : decode cX8_mostOfThresholds 21 = .ok (.iload_n 2, 1) := by decide +kernel
theorem dX8_mostOfThresholds_22 : decode cX8_mostOfThresholds 22 = .ok (.iload_n 3, 1) := by decide +kernel
theorem dX8_mostOfThresholds_23 : decode cX8_mostOfThresholds 23 = .ok (.invokevirtual 149, 3) := by decide +kernel
theorem dX8_mostOfThresholds_26 : decode cX8_mostOfThresholds 26 = .ok (.ifCond .eq 36, 3) := by decide +kernel
theorem dX8_mostOfThresholds_29 : decode cX8_mostOfThresholds 29 = .ok (.aload_n 0, 1) := by decide +kernel
theorem dX8_mostOfThresholds_30 : decode cX8_mostOfThresholds 30 = .ok (.getfield 38, 3) := by decide +kernel
theorem dX8_mostOfThresholds_33 : decode cX8_mostOfThresholds 33 = .ok (.iload_n 1, 1) := by decide +kernel
theorem dX8_mostOfThresholds_34 : decode cX8_mostOfThresholds 34 = .ok (.invokevirtual 90, 3) := by decide +kernel
theorem dX8_mostOfThresholds_37 : decode cX8_mostOfThresholds 37 = .ok (.aload_n 0, 1) := by decide +kernel
theorem dX8_mostOfThresholds_38 : decode cX8_mostOfThresholds 38 = .ok (.iload_n 1, 1) := by decide +kernel
theorem dX8_mostOfThresholds_39 : decode cX8_mostOfThresholds 39 = .ok (.iconst 1, 1) := by decide +kernel
theorem dX8_mostOfThresholds_40 : decode cX8_mostOfThresholds 40 = .ok (.iadd, 1) := by decide +kernel
theorem dX8_mostOfThresholds_41 : decode cX8_mostOfThresholds 41 = .ok (.iload_n 2, 1) := by decide +kernel
theorem dX8_mostOfThresholds_42 : decode cX8_mostOfThresholds 42 = .ok (.iconst 1, 1) := by decide +kernel
theorem dX8_mostOfThresholds_43 : decode cX8_mostOfThresholds 43 = .ok (.iload_n 1, 1) := by decide +kernel
theorem dX8_mostOfThresholds_44 : decode cX8_mostOfThresholds 44 = .ok (.ishl, 1) := by decide +kernel
theorem dX8_mostOfThresholds_45 : decode cX8_mostOfThresholds 45 = .ok (.ior, 1) := by decide +kernel
theorem dX8_mostOfThresholds_46 : decode cX8_mostOfThresholds 46 = .ok (.iload_n 3, 1) := by decide +kernel
theorem dX8_mostOfThresholds_47 : decode cX8_mostOfThresholds 47 = .ok (.invokevirtual 159, 3) := by decide +kernel
theorem dX8_mostOfThresholds_50 : decode cX8_mostOfThresholds 50 = .ok (.iadd, 1) := by decide +kernel
theorem dX8_mostOfThresholds_51 : decode cX8_mostOfThresholds 51 = .ok (.istore 5, 2) := by decide +kernel
theorem dX8_mostOfThresholds_53 : decode cX8_mostOfThresholds 53 = .ok (.iload 4, 2) := by decide +kernel
theorem dX8_mostOfThresholds_55 : decode cX8_mostOfThresholds 55 = .ok (.iload 5, 2) := by decide +kernel
theorem dX8_mostOfThresholds_57 : decode cX8_mostOfThresholds 57 = .ok (.invokestatic 111, 3) := by decide +kernel
theorem dX8_mostOfThresholds_60 : decode cX8_mostOfThresholds 60 = .ok (.istore 4, 2) := by decide +kernel
theorem dX8_mostOfThresholds_62 : decode cX8_mostOfThresholds 62 = .ok (.iload 4, 2) := by decide +kernel
theorem dX8_mostOfThresholds_64 : decode cX8_mostOfThresholds 64 = .ok (.ireturn, 1) := by decide +kernel
theorem dX8_discount_0 : decode cX8_discount 0 = .ok (.aload_n 0, 1) := by decide +kernel
theorem dX8_discount_1 : decode cX8_discount 1 = .ok (.getfield 79, 3) := by decide +kernel
theorem dX8_discount_4 : decode cX8_discount 4 = .ok (.ireturn, 1) := by decide +kernel
set_option maxRecDepth 20000 in
theorem ggX8_thresholdDiscount_X8_amountOf : GoodIn wsX8_thresholdDiscount wsX8_amountOf := goodIn_ca (goodIn_r _ [6, 7, 8, 9, 10, 11, 12, 13, 14, 15, 16, 17, 18, 19, 20, 21, 22, 23, 24, 25, 26, 27, 28, 29, 30, 31, 32, 33, 34] (by decide +kernel) (by decide +kernel)) (goodIn_sub (fun _ h => List.mem_cons_of_mem _ (List.mem_append_right _ h)) (by decide +kernel))
set_option maxRecDepth 20000 in
theorem gX8_thresholdDiscount_X8_amountOf : GoodIn wsX8_thresholdDiscount (wsV RX8 119 RX8 yX8_amountOf wsX8_amountOf) := goodIn_app (goodIn_of _ (by decide +kernel)) ggX8_thresholdDiscount_X8_amountOf
theorem dX8_thresholdDiscount_0 : decode cX8_thresholdDiscount 0 = .ok (.aload_n 0, 1) := by decide +kernel
theorem dX8_thresholdDiscount_1 : decode cX8_thresholdDiscount 1 = .ok (.aload_n 0, 1) := by decide +kernel
theorem dX8_thresholdDiscount_2 : decode cX8_thresholdDiscount 2 = .ok (.getfield 146, 3) := by decide +kernel
theorem dX8_thresholdDiscount_5 : decode cX8_thresholdDiscount 5 = .ok (.invokevirtual 119, 3) := by decide +kernel
theorem dX8_thresholdDiscount_8 : decode cX8_thresholdDiscount 8 = .ok (.ireturn, 1) := by decide +kernel
set_option maxRecDepth 20000 in
theorem ggX8_useFrom_X11_isWithin : GoodIn wsX8_useFrom wsX11_isWithin := goodIn_r _ [4] (by decide +kernel) (by decide +kernel)
set_option maxRecDepth 20000 in
theorem gX8_useFrom_X11_isWithin_n163 : GoodIn wsX8_useFrom (wsX11_isWithin) := ggX8_useFrom_X11_isWithin
set_option maxRecDepth 20000 in
theorem ggX8_useFrom_X11_at : GoodIn wsX8_useFrom wsX11_at := goodIn_ca (goodIn_r _ [6] (by decide +kernel) (by decide +kernel)) (goodIn_sub (fun _ h => List.mem_cons_of_mem _ (List.mem_append_right _ h)) (by decide +kernel))
set_option maxRecDepth 20000 in
theorem gX8_useFrom_X11_at_n86 : GoodIn wsX8_useFrom (wsX11_at) := ggX8_useFrom_X11_at
theorem dX8_useFrom_0 : decode cX8_useFrom 0 = .ok (.iload_n 1, 1) := by decide +kernel
theorem dX8_useFrom_1 : decode cX8_useFrom 1 = .ok (.iconst 0, 1) := by decide +kernel
theorem dX8_useFrom_2 : decode cX8_useFrom 2 = .ok (.bipush 6, 2) := by decide +kernel
theorem dX8_useFrom_4 : decode cX8_useFrom 4 = .ok (.invokestatic 163, 3) := by decide +kernel
theorem dX8_useFrom_7 : decode cX8_useFrom 7 = .ok (.ifCond .eq 14, 3) := by decide +kernel
theorem dX8_useFrom_10 : decode cX8_useFrom 10 = .ok (.aload_n 0, 1) := by decide +kernel
theorem dX8_useFrom_11 : decode cX8_useFrom 11 = .ok (.getfield 31, 3) := by decide +kernel
theorem dX8_useFrom_14 : decode cX8_useFrom 14 = .ok (.iload_n 1, 1) := by decide +kernel
theorem dX8_useFrom_15 : decode cX8_useFrom 15 = .ok (.invokestatic 86, 3) := by decide +kernel
theorem dX8_useFrom_18 : decode cX8_useFrom 18 = .ok (.goto 4, 3) := by decide +kernel
theorem dX8_useFrom_21 : decode cX8_useFrom 21 = .ok (.iconst (-1), 1) := by decide +kernel
theorem dX8_useFrom_22 : decode cX8_useFrom 22 = .ok (.ireturn, 1) := by decide +kernel
set_option maxRecDepth 20000 in
theorem ggX8_maskOf_X10_maskAt : GoodIn wsX8_maskOf wsX10_maskAt := goodIn_ca (goodIn_r _ [6, 7, 8, 9, 10, 23, 24, 25, 26, 27] (by decide +kernel) (by decide +kernel)) (goodIn_sub (fun _ h => List.mem_cons_of_mem _ (List.mem_append_right _ h)) (by decide +kernel))
set_option maxRecDepth 20000 in
theorem gX8_maskOf_X10_maskAt : GoodIn wsX8_maskOf (wsV RX8 96 RX10 yX10_maskAt wsX10_maskAt) := goodIn_app (goodIn_of _ (by decide +kernel)) ggX8_maskOf_X10_maskAt
theorem dX8_maskOf_0 : decode cX8_maskOf 0 = .ok (.aload_n 0, 1) := by decide +kernel
theorem dX8_maskOf_1 : decode cX8_maskOf 1 = .ok (.getfield 12, 3) := by decide +kernel
theorem dX8_maskOf_4 : decode cX8_maskOf 4 = .ok (.iload_n 1, 1) := by decide +kernel
theorem dX8_maskOf_5 : decode cX8_maskOf 5 = .ok (.invokevirtual 96, 3) := by decide +kernel
theorem dX8_maskOf_8 : decode cX8_maskOf 8 = .ok (.ireturn, 1) := by decide +kernel
set_option maxRecDepth 20000 in
theorem ggX8_discountOf_X10_discountAt : GoodIn wsX8_discountOf wsX10_discountAt := goodIn_ca (goodIn_r _ [6, 7, 8, 9, 10, 23, 24, 25, 26, 27] (by decide +kernel) (by decide +kernel)) (goodIn_sub (fun _ h => List.mem_cons_of_mem _ (List.mem_append_right _ h)) (by decide +kernel))
set_option maxRecDepth 20000 in
theorem gX8_discountOf_X10_discountAt : GoodIn wsX8_discountOf (wsV RX8 104 RX10 yX10_discountAt wsX10_discountAt) := goodIn_app (goodIn_of _ (by decide +kernel)) ggX8_discountOf_X10_discountAt
theorem dX8_discountOf_0 : decode cX8_discountOf 0 = .ok (.aload_n 0, 1) := by decide +kernel
theorem dX8_discountOf_1 : decode cX8_discountOf 1 = .ok (.getfield 12, 3) := by decide +kernel
theorem dX8_discountOf_4 : decode cX8_discountOf 4 = .ok (.iload_n 1, 1) := by decide +kernel
theorem dX8_discountOf_5 : decode cX8_discountOf 5 = .ok (.invokevirtual 104, 3) := by decide +kernel
theorem dX8_discountOf_8 : decode cX8_discountOf 8 = .ok (.ireturn, 1) := by decide +kernel
set_option maxRecDepth 20000 in
theorem ggX8_offerOn_X8_useFrom : GoodIn wsX8_offerOn wsX8_useFrom := goodIn_ca (goodIn_r _ [6, 7, 8, 9, 10, 11, 12, 26, 27, 28, 29, 30, 31, 32, 33, 34, 35, 36, 37] (by decide +kernel) (by decide +kernel)) (goodIn_sub (fun _ h => List.mem_cons_of_mem _ (List.mem_append_right _ h)) (by decide +kernel))
set_option maxRecDepth 20000 in
theorem gX8_offerOn_X8_useFrom : GoodIn wsX8_offerOn (wsV RX8 166 RX8 yX8_useFrom wsX8_useFrom) := goodIn_app (goodIn_of _ (by decide +kernel)) ggX8_offerOn_X8_useFrom
set_option maxRecDepth 20000 in
theorem ggX8_offerOn_X10_maskAt : GoodIn wsX8_offerOn wsX10_maskAt := goodIn_ca (goodIn_r _ [17, 18, 11, 9, 12, 38, 39, 40, 41, 42] (by decide +kernel) (by decide +kernel)) (goodIn_sub (fun _ h => List.mem_cons_of_mem _ (List.mem_append_right _ h)) (by decide +kernel))
set_option maxRecDepth 20000 in
theorem gX8_offerOn_X10_maskAt : GoodIn wsX8_offerOn (wsV RX8 96 RX10 yX10_maskAt wsX10_maskAt) := goodIn_app (goodIn_of _ (by decide +kernel)) ggX8_offerOn_X10_maskAt
set_option maxRecDepth 20000 in
theorem ggX8_offerOn_X11_isIn : GoodIn wsX8_offerOn wsX11_isIn := goodIn_r _ [20] (by decide +kernel) (by decide +kernel)
set_option maxRecDepth 20000 in
theorem gX8_offerOn_X11_isIn_n107 : GoodIn wsX8_offerOn (wsX11_isIn) := ggX8_offerOn_X11_isIn
set_option maxRecDepth 20000 in
theorem ggX8_offerOn_X10_offerAt : GoodIn wsX8_offerOn wsX10_offerAt := goodIn_ca (goodIn_r _ [24, 25, 11, 9, 12, 38, 39, 40, 41, 42] (by decide +kernel) (by decide +kernel)) (goodIn_sub (fun _ h => List.mem_cons_of_mem _ (List.mem_append_right _ h)) (by decide +kernel))
set_option maxRecDepth 20000 in
theorem gX8_offerOn_X10_offerAt : GoodIn wsX8_offerOn (wsV RX8 137 RX10 yX10_offerAt wsX10_offerAt) := goodIn_app (goodIn_of _ (by decide +kernel)) ggX8_offerOn_X10_offerAt
theorem dX8_offerOn_0 : decode cX8_offerOn 0 = .ok (.iconst 0, 1) := by decide +kernel
theorem dX8_offerOn_1 : decode cX8_offerOn 1 = .ok (.istore_n 2, 1) := by decide +kernel
theorem dX8_offerOn_2 : decode cX8_offerOn 2 = .ok (.iload_n 2, 1) := by decide +kernel
theorem dX8_offerOn_3 : decode cX8_offerOn 3 = .ok (.bipush 7, 2) := by decide +kernel
theorem dX8_offerOn_5 : decode cX8_offerOn 5 = .ok (.if_icmp .ge 44, 3) := by decide +kernel
theorem dX8_offerOn_8 : decode cX8_offerOn 8 = .ok (.aload_n 0, 1) := by decide +kernel
theorem dX8_offerOn_9 : decode cX8_offerOn 9 = .ok (.iload_n 2, 1) := by decide +kernel
theorem dX8_offerOn_10 : decode cX8_offerOn 10 = .ok (.invokevirtual 166, 3) := by decide +kernel
theorem dX8_offerOn_13 : decode cX8_offerOn 13 = .ok (.istore_n 3, 1) := by decide +kernel
theorem dX8_offerOn_14 : decode cX8_offerOn 14 = .ok (.iload_n 3, 1) := by decide +kernel
theorem dX8_offerOn_15 : decode cX8_offerOn 15 = .ok (.iconst (-1), 1) := by decide +kernel
theorem dX8_offerOn_16 : decode cX8_offerOn 16 = .ok (.if_icmp .eq 27, 3) := by decide +kernel
theorem dX8_offerOn_19 : decode cX8_offerOn 19 = .ok (.aload_n 0, 1) := by decide +kernel
theorem dX8_offerOn_20 : decode cX8_offerOn 20 = .ok (.getfield 12, 3) := by decide +kernel
theorem dX8_offerOn_23 : decode cX8_offerOn 23 = .ok (.iload_n 3, 1) := by decide +kernel
theorem dX8_offerOn_24 : decode cX8_offerOn 24 = .ok (.invokevirtual 96, 3) := by decide +kernel
theorem dX8_offerOn_27 : decode cX8_offerOn 27 = .ok (.iload_n 1, 1) := by decide +kernel
theorem dX8_offerOn_28 : decode cX8_offerOn 28 = .ok (.invokestatic 107, 3) := by decide +kernel
theorem dX8_offerOn_31 : decode cX8_offerOn 31 = .ok (.ifCond .eq 12, 3) := by decide +kernel
theorem dX8_offerOn_34 : decode cX8_offerOn 34 = .ok (.aload_n 0, 1) := by decide +kernel
theorem dX8_offerOn_35 : decode cX8_offerOn 35 = .ok (.getfield 12, 3) := by decide +kernel
theorem dX8_offerOn_38 : decode cX8_offerOn 38 = .ok (.iload_n 3, 1) := by decide +kernel
theorem dX8_offerOn_39 : decode cX8_offerOn 39 = .ok (.invokevirtual 137, 3) := by decide +kernel
theorem dX8_offerOn_42 : decode cX8_offerOn 42 = .ok (.ireturn, 1) := by decide +kernel
theorem dX8_offerOn_43 : decode cX8_offerOn 43 = .ok (.iinc 2 1, 3) := by decide +kernel
theorem dX8_offerOn_46 : decode cX8_offerOn 46 = .ok (.goto (-44), 3) := by decide +kernel
