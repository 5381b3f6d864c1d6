theorem dL_isSound_232 : decode cL_isSound 232 = .ok (.goto (-115), 3) := by decide +kernel
theorem dL_isSound_235 : decode cL_isSound 235 = .ok (.aload 7, 2) := by decide +kernel
theorem dL_isSound_237 : decode cL_isSound 237 = .ok (.astore 8, 2) := by decide +kernel
theorem dL_isSound_239 : decode cL_isSound 239 = .ok (.aload 8, 2) := by decide +kernel
theorem dL_isSound_241 : decode cL_isSound 241 = .ok (.arraylength, 1) := by decide +kernel
theorem dL_isSound_242 : decode cL_isSound 242 = .ok (.istore 9, 2) := by decide +kernel
theorem dL_isSound_244 : decode cL_isSound 244 = .ok (.iconst 0, 1) := by decide +kernel
theorem dL_isSound_245 : decode cL_isSound 245 = .ok (.istore 10, 2) := by decide +kernel
theorem dL_isSound_247 : decode cL_isSound 247 = .ok (.iload 10, 2) := by decide +kernel
theorem dL_isSound_249 : decode cL_isSound 249 = .ok (.iload 9, 2) := by decide +kernel
theorem dL_isSound_251 : decode cL_isSound 251 = .ok (.if_icmp .ge 24, 3) := by decide +kernel
theorem dL_isSound_254 : decode cL_isSound 254 = .ok (.aload 8, 2) := by decide +kernel
theorem dL_isSound_256 : decode cL_isSound 256 = .ok (.iload 10, 2) := by decide +kernel
theorem dL_isSound_258 : decode cL_isSound 258 = .ok (.iaload, 1) := by decide +kernel
theorem dL_isSound_259 : decode cL_isSound 259 = .ok (.istore 11, 2) := by decide +kernel
theorem dL_isSound_261 : decode cL_isSound 261 = .ok (.iload 11, 2) := by decide +kernel
theorem dL_isSound_263 : decode cL_isSound 263 = .ok (.iconst 1, 1) := by decide +kernel
theorem dL_isSound_264 : decode cL_isSound 264 = .ok (.if_icmp .le 5, 3) := by decide +kernel
theorem dL_isSound_267 : decode cL_isSound 267 = .ok (.iconst 0, 1) := by decide +kernel
theorem dL_isSound_268 : decode cL_isSound 268 = .ok (.ireturn, 1) := by decide +kernel
theorem dL_isSound_269 : decode cL_isSound 269 = .ok (.iinc 10 1, 3) := by decide +kernel
theorem dL_isSound_272 : decode cL_isSound 272 = .ok (.goto (-25), 3) := by decide +kernel
theorem dL_isSound_275 : decode cL_isSound 275 = .ok (.iload 6, 2) := by decide +kernel
theorem dL_isSound_277 : decode cL_isSound 277 = .ok (.aload_n 0, 1) := by decide +kernel
theorem dL_isSound_278 : decode cL_isSound 278 = .ok (.invokevirtual 86, 3) := by decide +kernel
theorem dL_isSound_281 : decode cL_isSound 281 = .ok (.if_icmp .ne 49, 3) := by decide +kernel
theorem dL_isSound_284 : decode cL_isSound 284 = .ok (.iload 5, 2) := by decide +kernel
theorem dL_isSound_286 : decode cL_isSound 286 = .ok (.iload 6, 2) := by decide +kernel
theorem dL_isSound_288 : decode cL_isSound 288 = .ok (.iconst 5, 1) := by decide +kernel
theorem dL_isSound_289 : decode cL_isSound 289 = .ok (.if_icmp .le 9, 3) := by decide +kernel
theorem dL_isSound_292 : decode cL_isSound 292 = .ok (.sipush (-1001), 3) := by decide +kernel
theorem dL_isSound_295 : decode cL_isSound 295 = .ok (.goto 5, 3) := by decide +kernel
theorem dL_isSound_298 : decode cL_isSound 298 = .ok (.iload 4, 2) := by decide +kernel
theorem dL_isSound_300 : decode cL_isSound 300 = .ok (.if_icmp .ne 30, 3) := by decide +kernel
theorem dL_isSound_303 : decode cL_isSound 303 = .ok (.iload_n 3, 1) := by decide +kernel
theorem dL_isSound_304 : decode cL_isSound 304 = .ok (.aload_n 0, 1) := by decide +kernel
theorem dL_isSound_305 : decode cL_isSound 305 = .ok (.invokevirtual 135, 3) := by decide +kernel
theorem dL_isSound_308 : decode cL_isSound 308 = .ok (.if_icmp .ne 22, 3) := by decide +kernel
theorem dL_isSound_311 : decode cL_isSound 311 = .ok (.iload_n 3, 1) := by decide +kernel
theorem dL_isSound_312 : decode cL_isSound 312 = .ok (.iconst 0, 1) := by decide +kernel
theorem dL_isSound_313 : decode cL_isSound 313 = .ok (.aload_n 0, 1) := by decide +kernel
theorem dL_isSound_314 : decode cL_isSound 314 = .ok (.invokevirtual 91, 3) := by decide +kernel
theorem dL_isSound_317 : decode cL_isSound 317 = .ok (.iload 4, 2) := by decide +kernel
theorem dL_isSound_319 : decode cL_isSound 319 = .ok (.isub, 1) := by decide +kernel
theorem dL_isSound_320 : decode cL_isSound 320 = .ok (.invokestatic 138, 3) := by decide +kernel
theorem dL_isSound_323 : decode cL_isSound 323 = .ok (.if_icmp .ne 7, 3) := by decide +kernel
theorem dL_isSound_326 : decode cL_isSound 326 = .ok (.iconst 1, 1) := by decide +kernel
theorem dL_isSound_327 : decode cL_isSound 327 = .ok (.goto 4, 3) := by decide +kernel
theorem dL_isSound_330 : decode cL_isSound 330 = .ok (.iconst 0, 1) := by decide +kernel
theorem dL_isSound_331 : decode cL_isSound 331 = .ok (.ireturn, 1) := by decide +kernel
set_option maxRecDepth 20000 in
theorem ggL_law_X11_init : GoodIn wsL_law wsX11_init := goodIn_r _ [13, 14, 15, 16, 17, 18, 19, 20, 21, 22, 23, 24, 25, 26, 27, 28, 29, 30, 31, 32, 33, 34, 35, 36, 37, 38, 39, 3, 40, 41, 42, 43, 44, 45, 46, 47, 48, 49, 50, 51, 52, 53, 54, 55, 56, 57, 58, 59, 60, 61, 62, 63, 64, 65, 66, 67, 68, 69, 70, 71, 72, 73, 74, 75, 76, 77, 78, 79, 80, 81, 82, 83, 84, 85, 86, 87, 88, 89, 768, 769, 770, 771, 772, 761, 762, 763, 764, 765, 766, 767, 773, 774, 775, 776, 777, 778, 779, 780, 781, 782, 783, 784, 785, 786, 787, 788, 789, 790, 791, 792, 793, 794, 795, 796, 797, 798, 799, 800, 801, 802, 803, 804, 805, 806, 807, 808] (by decide +kernel) (by decide +kernel)
set_option maxRecDepth 20000 in
theorem gL_law_X11_init : GoodIn wsL_law (wsX11_init) := ggL_law_X11_init
set_option maxRecDepth 20000 in
theorem ggL_law_L_at : GoodIn wsL_law wsL_at := goodIn_ca (goodIn_r _ [93] (by decide +kernel) (by decide +kernel)) (goodIn_sub (fun _ h => List.mem_append_left _ (List.mem_append_left _ (List.mem_append_left _ (List.mem_append_left _ (List.mem_append_left _ (List.mem_append_left _ (List.mem_append_left _ (List.mem_append_right _ h)))))))) (by decide +kernel))
set_option maxRecDepth 20000 in
theorem gL_law_L_at : GoodIn wsL_law (va_wsS RL 144 yL_at wsL_at) := goodIn_app (goodIn_of _ (by decide +kernel)) ggL_law_L_at
set_option maxRecDepth 20000 in
theorem ggL_law_L_some : GoodIn wsL_law wsL_some := goodIn_ca (goodIn_r _ [96] (by decide +kernel) (by decide +kernel)) (goodIn_sub (fun _ h => List.mem_append_left _ (List.mem_append_left _ (List.mem_append_left _ (List.mem_append_left _ (List.mem_append_left _ (List.mem_append_left _ (List.mem_append_right _ h))))))) (by decide +kernel))
set_option maxRecDepth 20000 in
theorem gL_law_L_some : GoodIn wsL_law (va_wsS RL 148 yL_some wsL_some) := goodIn_app (goodIn_of _ (by decide +kernel)) ggL_law_L_some
set_option maxRecDepth 20000 in
theorem ggL_law_L_sum_p0 : GoodIn wsL_law [.code yL_sum cL_sum 5 (some .long)] := goodIn_r _ [99] (by decide +kernel) (by decide +kernel)
set_option maxRecDepth 20000 in
theorem ggL_law_L_sum_p1 : GoodIn wsL_law wsL_sum_r1 := goodIn_r _ [100, 101, 102, 103, 104, 105, 106, 107, 108, 2, 109, 20, 110, 111, 112, 19, 113, 114, 115, 116, 117, 118, 119, 120] (by decide +kernel) (by decide +kernel)
set_option maxRecDepth 20000 in
theorem ggL_law_L_sum_p2 : GoodIn wsL_law wsL_sum_r2 := goodIn_r _ [121, 122, 123, 124, 125, 126, 127, 128, 42, 129, 130, 131, 132, 133, 134, 135, 136, 24, 137, 138, 139, 23, 140, 141] (by decide +kernel) (by decide +kernel)
set_option maxRecDepth 20000 in
theorem ggL_law_L_sum_p3 : GoodIn wsL_law wsL_sum_r3 := goodIn_r _ [142, 143, 144, 145, 36, 146, 147, 148, 35, 149, 150, 151, 152, 153, 154, 155, 156, 157, 158, 159, 160, 161, 162, 163] (by decide +kernel) (by decide +kernel)
set_option maxRecDepth 20000 in
theorem ggL_law_L_sum_p4 : GoodIn wsL_law wsL_sum_r4 := goodIn_r _ [164, 28, 165, 166, 167, 168, 169, 170, 32, 171, 172, 173, 27, 174, 59, 65, 66, 60, 175, 176, 177, 178, 179, 180] (by decide +kernel) (by decide +kernel)
set_option maxRecDepth 20000 in
theorem ggL_law_L_sum_p5 : GoodIn wsL_law wsL_sum_r5 := goodIn_r _ [58, 181, 182, 73, 183, 184, 185, 186, 187, 188, 189, 190, 51, 191, 192, 193, 194, 47, 195, 196, 197, 198, 199, 200] (by decide +kernel) (by decide +kernel)
set_option maxRecDepth 20000 in
theorem ggL_law_L_sum_p6 : GoodIn wsL_law wsL_sum_r6 := goodIn_r _ [201, 202, 203, 204, 205, 206, 207, 208, 209, 210, 211, 212, 213, 214, 215, 216, 217, 218, 219, 220, 221, 222, 223, 224] (by decide +kernel) (by decide +kernel)
set_option maxRecDepth 20000 in
theorem ggL_law_L_sum_p7 : GoodIn wsL_law wsL_sum_r7 := goodIn_r _ [225, 226, 227, 228, 229, 230, 231, 232, 233, 234, 235, 236, 237, 238, 239, 240, 241, 242, 243, 244, 245, 246, 247, 248] (by decide +kernel) (by decide +kernel)
set_option maxRecDepth 20000 in
theorem ggL_law_L_sum_p8 : GoodIn wsL_law wsL_sum_r8 := goodIn_r _ [249, 250, 251, 252, 253, 41, 254, 255, 256, 257, 258, 259, 260, 261, 262, 263, 264, 265, 266, 7, 267, 268, 269, 270] (by decide +kernel) (by decide +kernel)
set_option maxRecDepth 20000 in
theorem ggL_law_L_sum_p9 : GoodIn wsL_law wsL_sum_r9 := goodIn_r _ [271, 272, 273, 274, 275, 276, 277, 278, 279, 280, 70, 71, 72, 281, 282, 283, 284, 285, 286, 287, 61, 288, 289, 290] (by decide +kernel) (by decide +kernel)
set_option maxRecDepth 20000 in
theorem ggL_law_L_sum_p10 : GoodIn wsL_law wsL_sum_r10 := goodIn_r _ [291, 50, 292, 293, 294, 295, 62, 296, 6, 8, 297, 298, 299, 300, 301, 302, 303, 304, 305, 306, 307, 308, 309, 310] (by decide +kernel) (by decide +kernel)
set_option maxRecDepth 20000 in
theorem ggL_law_L_sum_p11 : GoodIn wsL_law wsL_sum_r11 := goodIn_r _ [311, 312, 313, 63, 314, 315, 316, 317, 318, 319, 320, 321, 322, 323, 324, 325, 48, 326, 327, 328, 329, 49, 330, 331] (by decide +kernel) (by decide +kernel)
set_option maxRecDepth 20000 in
theorem ggL_law_L_sum_p12 : GoodIn wsL_law wsL_sum_r12 := goodIn_r _ [332, 333, 334, 335, 336, 337, 338, 339, 340, 341, 342, 64, 343, 344, 345, 346, 347, 348, 349, 350, 351, 352, 353, 354] (by decide +kernel) (by decide +kernel)
set_option maxRecDepth 20000 in
theorem ggL_law_L_sum_p13 : GoodIn wsL_law wsL_sum_r13 := goodIn_r _ [355, 356, 357, 358, 359, 360, 361, 31, 362, 78, 80, 81, 363, 364, 365, 366, 367, 368, 369, 370, 371, 372, 373, 374] (by decide +kernel) (by decide +kernel)
set_option maxRecDepth 20000 in
theorem ggL_law_L_sum_p14 : GoodIn wsL_law wsL_sum_r14 := goodIn_r _ [375, 376, 377, 378, 379, 380, 381, 382, 383, 384, 385, 386, 79, 387, 388, 389, 390, 391, 392, 393, 394, 395, 396, 397] (by decide +kernel) (by decide +kernel)
set_option maxRecDepth 20000 in
theorem ggL_law_L_sum_p15 : GoodIn wsL_law wsL_sum_r15 := goodIn_r _ [398, 399, 400, 401, 92, 402, 403, 404, 405, 406, 407, 408, 409, 410, 411, 412, 413, 414, 415, 416, 417, 418, 419, 420] (by decide +kernel) (by decide +kernel)
set_option maxRecDepth 20000 in
theorem ggL_law_L_sum_p16 : GoodIn wsL_law wsL_sum_r16 := goodIn_r _ [421, 422, 423, 424, 425, 426, 427, 428, 429, 430, 431, 432, 433, 434, 435, 436, 437, 438, 439, 440, 441, 442, 443, 444] (by decide +kernel) (by decide +kernel)
set_option maxRecDepth 20000 in
theorem ggL_law_L_sum_p17 : GoodIn wsL_law wsL_sum_r17 := goodIn_r _ [445, 446, 447, 448, 449, 40, 450, 451, 452, 453, 454, 455, 456, 457, 458, 459, 460, 461, 462, 463, 464, 465, 466, 467] (by decide +kernel) (by decide +kernel)
set_option maxRecDepth 20000 in
theorem ggL_law_L_sum_p18 : GoodIn wsL_law wsL_sum_r18 := goodIn_r _ [468, 469, 470, 471, 472, 86, 473, 474, 475, 476, 88] (by decide +kernel) (by decide +kernel)
set_option maxRecDepth 20000 in
theorem ggL_law_L_sum_p19 : GoodIn wsL_law wsX110 := goodIn_r _ [761, 762, 763, 764, 765, 766, 767] (by decide +kernel) (by decide +kernel)
set_option maxRecDepth 20000 in
theorem ggL_law_L_sum_p20 : GoodIn wsL_law wsX00 := goodIn_r _ [768, 769, 770, 771, 772] (by decide +kernel) (by decide +kernel)
set_option maxRecDepth 20000 in
theorem ggL_law_L_sum_p21 : GoodIn wsL_law wsX60 := goodIn_r _ [773, 774, 775, 776, 777, 778] (by decide +kernel) (by decide +kernel)
set_option maxRecDepth 20000 in
theorem ggL_law_L_sum_p22 : GoodIn wsL_law wsX40 := goodIn_r _ [795, 796, 797, 798, 799, 800, 801, 802, 803] (by decide +kernel) (by decide +kernel)
set_option maxRecDepth 20000 in
theorem ggL_law_L_sum_p23 : GoodIn wsL_law wsX80 := goodIn_r _ [779, 780, 781, 782, 783, 784, 785, 786, 787, 788, 789, 790] (by decide +kernel) (by decide +kernel)
set_option maxRecDepth 20000 in
theorem ggL_law_L_sum_p24 : GoodIn wsL_law wsX100 := goodIn_r _ [804, 805, 806, 807, 808] (by decide +kernel) (by decide +kernel)
set_option maxRecDepth 20000 in
theorem ggL_law_L_sum_p25 : GoodIn wsL_law wsX20 := goodIn_r _ [809, 810, 811, 812, 813, 814, 815, 816, 817] (by decide +kernel) (by decide +kernel)
set_option maxRecDepth 20000 in
theorem ggL_law_L_sum_p26 : GoodIn wsL_law wsX30 := goodIn_r _ [818, 819, 820, 821] (by decide +kernel) (by decide +kernel)
set_option maxRecDepth 20000 in
theorem ggL_law_L_sum_p27 : GoodIn wsL_law wsX70 := goodIn_r _ [822, 823, 824, 825] (by decide +kernel) (by decide +kernel)
set_option maxRecDepth 20000 in
theorem ggL_law_L_sum_p28 : GoodIn wsL_law wsX90 := goodIn_r _ [826, 827, 828, 829] (by decide +kernel) (by decide +kernel)
set_option maxRecDepth 20000 in
theorem ggL_law_L_sum_p29 : GoodIn wsL_law wsX10 := goodIn_r _ [791, 792, 793, 794] (by decide +kernel) (by decide +kernel)
set_option maxRecDepth 20000 in
theorem ggL_law_L_sum : GoodIn wsL_law wsL_sum := goodIn_ca (goodIn_ca (goodIn_ca (goodIn_ca (goodIn_app ggL_law_L_sum_p0 (goodIn_app (goodIn_app (goodIn_app (goodIn_app (goodIn_app (goodIn_app (goodIn_app (goodIn_app (goodIn_app (goodIn_app (goodIn_app (goodIn_app ggL_law_L_sum_p1 (goodIn_app ggL_law_L_sum_p2 (goodIn_app ggL_law_L_sum_p3 (goodIn_app ggL_law_L_sum_p4 (goodIn_app ggL_law_L_sum_p5 (goodIn_app ggL_law_L_sum_p6 (goodIn_app ggL_law_L_sum_p7 (goodIn_app ggL_law_L_sum_p8 (goodIn_app ggL_law_L_sum_p9 (goodIn_app ggL_law_L_sum_p10 (goodIn_app ggL_law_L_sum_p11 (goodIn_app ggL_law_L_sum_p12 (goodIn_app ggL_law_L_sum_p13 (goodIn_app ggL_law_L_sum_p14 (goodIn_app ggL_law_L_sum_p15 (goodIn_app ggL_law_L_sum_p16 (goodIn_app ggL_law_L_sum_p17 ggL_law_L_sum_p18))))))))))))))))) ggL_law_L_sum_p19) ggL_law_L_sum_p20) ggL_law_L_sum_p21) ggL_law_L_sum_p22) ggL_law_L_sum_p23) ggL_law_L_sum_p24) ggL_law_L_sum_p25) ggL_law_L_sum_p26) ggL_law_L_sum_p27) ggL_law_L_sum_p28) ggL_law_L_sum_p29)) (goodIn_sub (fun _ h => List.mem_append_left _ (List.mem_append_left _ (List.mem_append_left _ (List.mem_append_left _ (List.mem_append_left _ (List.mem_append_left _ (List.mem_append_left _ (List.mem_append_right _ h)))))))) (by decide +kernel))) (goodIn_sub (fun _ h => List.mem_append_left _ (List.mem_append_left _ (List.mem_append_left _ (List.mem_append_left _ (List.mem_append_left _ (List.mem_append_left _ (List.mem_append_right _ h))))))) (by decide +kernel))) (goodIn_sub (fun _ h => List.mem_append_left _ (List.mem_append_left _ (List.mem_append_left _ (List.mem_append_left _ (List.mem_append_left _ (List.mem_append_right _ h)))))) (by decide +kernel))) (goodIn_sub (fun _ h => List.mem_append_left _ (List.mem_append_left _ (List.mem_append_left _ (List.mem_append_left _ (List.mem_append_right _ h))))) (by decide +kernel))
set_option maxRecDepth 20000 in
theorem gL_law_L_sum : GoodIn wsL_law (va_wsS RL 152 yL_sum wsL_sum) := goodIn_app (goodIn_of _ (by decide +kernel)) ggL_law_L_sum
set_option maxRecDepth 20000 in
theorem ggL_law_X11_items : GoodIn wsL_law wsX11_items := goodIn_r _ [109, 20, 110, 111, 112, 19, 113, 114, 761, 762, 763, 764, 765, 766, 767, 768, 769, 770, 771, 772] (by decide +kernel) (by decide +kernel)
set_option maxRecDepth 20000 in
theorem gL_law_X11_items : GoodIn wsL_law (wsV RL 86 RX11 yX11_items wsX11_items) := goodIn_app (goodIn_of _ (by decide +kernel)) ggL_law_X11_items
set_option maxRecDepth 20000 in
theorem ggL_law_L_put : GoodIn wsL_law wsL_put := goodIn_ca (goodIn_ca (goodIn_ca (goodIn_r _ [479, 480, 481, 482, 483, 484, 2, 485, 486, 487, 488, 489, 20, 169, 490, 372, 373, 491, 492, 493, 19, 494, 114, 495, 496, 497, 498, 499, 40, 41, 42, 184, 185, 761, 762, 763, 764, 765, 766, 767, 768, 769, 770, 771, 772] (by decide +kernel) (by decide +kernel)) (goodIn_sub (fun _ h => List.mem_append_left _ (List.mem_append_left _ (List.mem_append_left _ (List.mem_append_right _ h)))) (by decide +kernel))) (goodIn_sub (fun _ h => List.mem_append_left _ (List.mem_append_left _ (List.mem_append_right _ h))) (by decide +kernel))) (goodIn_sub (fun _ h => List.mem_append_left _ (List.mem_append_left _ (List.mem_append_left _ (List.mem_append_left _ (List.mem_append_left _ (List.mem_append_left _ (List.mem_append_left _ (List.mem_append_right _ h)))))))) (by decide +kernel))
set_option maxRecDepth 20000 in
theorem gL_law_L_put : GoodIn wsL_law (va_wsS RL 155 yL_put wsL_put) := goodIn_app (goodIn_of _ (by decide +kernel)) ggL_law_L_put
set_option maxRecDepth 20000 in
theorem ggL_law_L_item_p0 : GoodIn wsL_law [.codeWith yL_item cL_item 4 (some .int) [(0, 17, 18, 21)]] := goodIn_r _ [438] (by decide +kernel) (by decide +kernel)
set_option maxRecDepth 20000 in
theorem ggL_law_L_item_p1 : GoodIn wsL_law wsL_item_r1 := goodIn_r _ [439, 440, 441, 442, 2, 443, 444, 445, 20, 32, 446, 447, 448, 19, 449, 114, 40, 131, 132, 165, 166, 167, 168, 169] (by decide +kernel) (by decide +kernel)
set_option maxRecDepth 20000 in
theorem ggL_law_L_item_p2 : GoodIn wsL_law wsL_item_r2 := goodIn_r _ [28, 170, 171, 172, 173, 27, 174, 59, 65, 66, 60, 175, 176, 177, 178, 179, 180, 58, 181, 182, 73, 183, 111, 112] (by decide +kernel) (by decide +kernel)
set_option maxRecDepth 20000 in
theorem ggL_law_L_item_p3 : GoodIn wsL_law wsL_item_r3 := goodIn_r _ [113, 184, 185, 186, 138, 139, 23, 140, 141, 187, 188, 189, 190, 51, 191, 192, 193, 194, 47, 195, 196, 197, 198, 199] (by decide +kernel) (by decide +kernel)
set_option maxRecDepth 20000 in
theorem ggL_law_L_item_p4 : GoodIn wsL_law wsL_item_r4 := goodIn_r _ [200, 201, 202, 203, 204, 205, 206, 207, 208, 209, 123, 124, 210, 120, 121, 122, 211, 212, 213, 214, 215, 216, 217, 218] (by decide +kernel) (by decide +kernel)
set_option maxRecDepth 20000 in
theorem ggL_law_L_item_p5 : GoodIn wsL_law wsL_item_r5 := goodIn_r _ [219, 220, 221, 222, 223, 224, 225, 226, 227, 228, 229, 230, 231, 232, 233, 234, 235, 236, 237, 238, 239, 240, 241, 242] (by decide +kernel) (by decide +kernel)
set_option maxRecDepth 20000 in
theorem ggL_law_L_item_p6 : GoodIn wsL_law wsL_item_r6 := goodIn_r _ [243, 244, 245, 246, 247, 248, 249, 250, 251, 252, 253, 41, 129, 130, 254, 126, 127, 128, 42, 255, 256, 257, 258, 259] (by decide +kernel) (by decide +kernel)
set_option maxRecDepth 20000 in
theorem ggL_law_L_item_p7 : GoodIn wsL_law wsL_item_r7 := goodIn_r _ [260, 261, 262, 263, 264, 265, 266, 7, 267, 268, 269, 270, 271, 272, 273, 274, 275, 276, 277, 278, 279, 280, 70, 71] (by decide +kernel) (by decide +kernel)
set_option maxRecDepth 20000 in
theorem ggL_law_L_item_p8 : GoodIn wsL_law wsL_item_r8 := goodIn_r _ [72, 281, 282, 283, 284, 285, 286, 287, 61, 288, 289, 290, 291, 50, 292, 293, 294, 295, 62, 296, 6, 8, 297, 298] (by decide +kernel) (by decide +kernel)
set_option maxRecDepth 20000 in
theorem ggL_law_L_item_p9 : GoodIn wsL_law wsL_item_r9 := goodIn_r _ [299, 300, 301, 302, 303, 304, 305, 306, 307, 308, 309, 310, 311, 312, 313, 63, 314, 315, 316, 317, 318, 319, 320, 321] (by decide +kernel) (by decide +kernel)
set_option maxRecDepth 20000 in
theorem ggL_law_L_item_p10 : GoodIn wsL_law wsL_item_r10 := goodIn_r _ [322, 323, 324, 325, 48, 326, 327, 328, 329, 49, 330, 331, 332, 333, 334, 335, 336, 337, 338, 339, 340, 341, 342, 64] (by decide +kernel) (by decide +kernel)
set_option maxRecDepth 20000 in
theorem ggL_law_L_item_p11 : GoodIn wsL_law wsL_item_r11 := goodIn_r _ [343, 344, 345, 346, 347, 348, 349, 350, 351, 352, 353, 354, 355, 356, 357, 358, 359, 360, 361, 31, 362, 78, 80, 81] (by decide +kernel) (by decide +kernel)
set_option maxRecDepth 20000 in
theorem ggL_law_L_item_p12 : GoodIn wsL_law wsL_item_r12 := goodIn_r _ [363, 364, 365, 366, 367, 368, 369, 370, 371, 372, 373, 374, 375, 376, 377, 378, 379, 380, 381, 382, 383, 384, 385, 386] (by decide +kernel) (by decide +kernel)
set_option maxRecDepth 20000 in
theorem ggL_law_L_item_p13 : GoodIn wsL_law wsL_item_r13 := goodIn_r _ [79, 387, 388, 389, 390, 391, 392, 393, 394, 395, 450, 451, 452, 453, 454, 455, 456, 457, 458, 459, 460, 461, 423] (by decide +kernel) (by decide +kernel)
set_option maxRecDepth 20000 in
theorem ggL_law_L_item_p14 : GoodIn wsL_law wsX110 := goodIn_r _ [761, 762, 763, 764, 765, 766, 767] (by decide +kernel) (by decide +kernel)
set_option maxRecDepth 20000 in
theorem ggL_law_L_item_p15 : GoodIn wsL_law wsX00 := goodIn_r _ [768, 769, 770, 771, 772] (by decide +kernel) (by decide +kernel)
set_option maxRecDepth 20000 in
theorem ggL_law_L_item_p16 : GoodIn wsL_law wsX80 := goodIn_r _ [779, 780, 781, 782, 783, 784, 785, 786, 787, 788, 789, 790] (by decide +kernel) (by decide +kernel)
set_option maxRecDepth 20000 in
theorem ggL_law_L_item_p17 : GoodIn wsL_law wsX100 := goodIn_r _ [804, 805, 806, 807, 808] (by decide +kernel) (by decide +kernel)
set_option maxRecDepth 20000 in
theorem ggL_law_L_item_p18 : GoodIn wsL_law wsX60 := goodIn_r _ [773, 774, 775, 776, 777, 778] (by decide +kernel) (by decide +kernel)
set_option maxRecDepth 20000 in
theorem ggL_law_L_item_p19 : GoodIn wsL_law wsX20 := goodIn_r _ [809, 810, 811, 812, 813, 814, 815, 816, 817] (by decide +kernel) (by decide +kernel)
set_option maxRecDepth 20000 in
theorem ggL_law_L_item_p20 : GoodIn wsL_law wsX30 := goodIn_r _ [818, 819, 820, 821] (by decide +kernel) (by decide +kernel)
set_option maxRecDepth 20000 in
theorem ggL_law_L_item_p21 : GoodIn wsL_law wsX70 := goodIn_r _ [822, 823, 824, 825] (by decide +kernel) (by decide +kernel)
set_option maxRecDepth 20000 in
theorem ggL_law_L_item_p22 : GoodIn wsL_law wsX90 := goodIn_r _ [826, 827, 828, 829] (by decide +kernel) (by decide +kernel)
set_option maxRecDepth 20000 in
theorem ggL_law_L_item_p23 : GoodIn wsL_law wsX10 := goodIn_r _ [791, 792, 793, 794] (by decide +kernel) (by decide +kernel)
set_option maxRecDepth 20000 in
theorem ggL_law_L_item : GoodIn wsL_law wsL_item := goodIn_ca (goodIn_ca (goodIn_ca (goodIn_app ggL_law_L_item_p0 (goodIn_app (goodIn_app (goodIn_app (goodIn_app (goodIn_app (goodIn_app (goodIn_app (goodIn_app (goodIn_app (goodIn_app (goodIn_app ggL_law_L_item_p1 (goodIn_app ggL_law_L_item_p2 (goodIn_app ggL_law_L_item_p3 (goodIn_app ggL_law_L_item_p4 (goodIn_app ggL_law_L_item_p5 (goodIn_app ggL_law_L_item_p6 (goodIn_app ggL_law_L_item_p7 (goodIn_app ggL_law_L_item_p8 (goodIn_app ggL_law_L_item_p9 (goodIn_app ggL_law_L_item_p10 (goodIn_app ggL_law_L_item_p11 (goodIn_app ggL_law_L_item_p12 ggL_law_L_item_p13)))))))))))) ggL_law_L_item_p14) ggL_law_L_item_p15) ggL_law_L_item_p16) ggL_law_L_item_p17) ggL_law_L_item_p18) ggL_law_L_item_p19) ggL_law_L_item_p20) ggL_law_L_item_p21) ggL_law_L_item_p22) ggL_law_L_item_p23)) (goodIn_sub (fun _ h => List.mem_append_left _ (List.mem_append_left _ (List.mem_append_left _ (List.mem_append_left _ (List.mem_append_right _ h))))) (by decide +kernel))) (goodIn_sub (fun _ h => List.mem_append_left _ (List.mem_append_left _ (List.mem_append_left _ (List.mem_append_left _ (List.mem_append_left _ (List.mem_append_left _ (List.mem_append_left _ (List.mem_append_right _ h)))))))) (by decide +kernel))) (goodIn_sub (fun _ h => List.mem_append_left _ (List.mem_append_left _ (List.mem_append_left _ (List.mem_append_left _ (List.mem_append_left _ (List.mem_append_left _ (List.mem_append_right _ h))))))) (by decide +kernel))
set_option maxRecDepth 20000 in
theorem gL_law_L_item : GoodIn wsL_law (va_wsS RL 123 yL_item wsL_item) := goodIn_app (goodIn_of _ (by decide +kernel)) ggL_law_L_item
set_option maxRecDepth 20000 in
theorem ggL_law_L_out : GoodIn wsL_law wsL_out := goodIn_ca (goodIn_ca (goodIn_r _ [502, 439, 503, 504, 505, 2, 506, 444, 445, 20, 169, 446, 447, 448, 19, 449, 114, 40, 131, 132, 507, 508, 509, 510, 41, 42, 184, 185, 110, 111, 112, 113, 761, 762, 763, 764, 765, 766, 767, 768, 769, 770, 771, 772] (by decide +kernel) (by decide +kernel)) (goodIn_sub (fun _ h => List.mem_append_left _ (List.mem_append_left _ (List.mem_append_left _ (List.mem_append_left _ (List.mem_append_right _ h))))) (by decide +kernel))) (goodIn_sub (fun _ h => List.mem_append_left _ (List.mem_append_left _ (List.mem_append_left _ (List.mem_append_left _ (List.mem_append_left _ (List.mem_append_left _ (List.mem_append_left _ (List.mem_append_right _ h)))))))) (by decide +kernel))
set_option maxRecDepth 20000 in
theorem gL_law_L_out : GoodIn wsL_law (va_wsS RL 158 yL_out wsL_out) := goodIn_app (goodIn_of _ (by decide +kernel)) ggL_law_L_out
set_option maxRecDepth 20000 in
theorem ggL_law_J0_charAt_5068e : GoodIn wsL_law wsJ0_charAt_5068e := goodIn_r _ [515, 516, 517, 518, 519, 514, 520, 521, 522, 523, 524, 525, 526, 527, 528, 529, 530, 531, 532, 533, 534, 535, 536, 537, 538, 539, 540, 541, 542, 543, 544, 545, 546, 547, 548, 549, 550, 551, 830, 831] (by decide +kernel) (by decide +kernel)
set_option maxRecDepth 20000 in
theorem gL_law_J0_charAt_5068e : GoodIn wsL_law (wsV RL 163 RJ0 yJ0_charAt_5068e wsJ0_charAt_5068e) := goodIn_app (goodIn_of _ (by decide +kernel)) ggL_law_J0_charAt_5068e
set_option maxRecDepth 20000 in
theorem ggL_law_X11_bestDiscount_p0 : GoodIn wsL_law [.code yX11_bestDiscount cX11_bestDiscount 1 (some .int)] := goodIn_r _ [164] (by decide +kernel) (by decide +kernel)
set_option maxRecDepth 20000 in
theorem ggL_law_X11_bestDiscount_p1 : GoodIn wsL_law wsX11_bestDiscount_r1 := goodIn_r _ [28, 165, 166, 167, 2, 168, 169, 170, 32, 171, 172, 173, 27, 174, 59, 65, 66, 60, 175, 176, 177, 178, 179, 180] (by decide +kernel) (by decide +kernel)
set_option maxRecDepth 20000 in
theorem ggL_law_X11_bestDiscount_p2 : GoodIn wsL_law wsX11_bestDiscount_r2 := goodIn_r _ [58, 181, 182, 73, 183, 111, 112, 19, 113, 114, 184, 185, 186, 138, 139, 23, 140, 141, 187, 188, 189, 190, 51, 191] (by decide +kernel) (by decide +kernel)
set_option maxRecDepth 20000 in
theorem ggL_law_X11_bestDiscount_p3 : GoodIn wsL_law wsX11_bestDiscount_r3 := goodIn_r _ [192, 193, 194, 47, 195, 196, 197, 198, 199, 200, 201, 202, 203, 204, 131, 132, 205, 206, 207, 208, 209, 123, 124, 210] (by decide +kernel) (by decide +kernel)
set_option maxRecDepth 20000 in
theorem ggL_law_X11_bestDiscount_p4 : GoodIn wsL_law wsX11_bestDiscount_r4 := goodIn_r _ [120, 121, 122, 211, 212, 213, 214, 215, 216, 217, 218, 219, 220, 221, 222, 223, 224, 225, 226, 227, 228, 229, 230, 231] (by decide +kernel) (by decide +kernel)
set_option maxRecDepth 20000 in
theorem ggL_law_X11_bestDiscount_p5 : GoodIn wsL_law wsX11_bestDiscount_r5 := goodIn_r _ [232, 233, 234, 235, 236, 237, 238, 239, 240, 241, 242, 243, 244, 245, 246, 247, 248, 249, 250, 251, 252, 253, 41, 129] (by decide +kernel) (by decide +kernel)
set_option maxRecDepth 20000 in
theorem ggL_law_X11_bestDiscount_p6 : GoodIn wsL_law wsX11_bestDiscount_r6 := goodIn_r _ [130, 254, 126, 127, 128, 42, 255, 256, 257, 258, 259, 260, 261, 262, 263, 264, 265, 266, 7, 267, 268, 269, 270, 271] (by decide +kernel) (by decide +kernel)
set_option maxRecDepth 20000 in
theorem ggL_law_X11_bestDiscount_p7 : GoodIn wsL_law wsX11_bestDiscount_r7 := goodIn_r _ [272, 273, 274, 275, 276, 277, 278, 279, 280, 70, 71, 72, 281, 282, 283, 284, 285, 286, 287, 61, 288, 289, 290, 291] (by decide +kernel) (by decide +kernel)
set_option maxRecDepth 20000 in
theorem ggL_law_X11_bestDiscount_p8 : GoodIn wsL_law wsX11_bestDiscount_r8 := goodIn_r _ [50, 292, 293, 294, 295, 62, 296, 6, 8, 297, 298, 299, 300, 301, 302, 303, 304, 305, 306, 307, 308, 309, 310, 311] (by decide +kernel) (by decide +kernel)
set_option maxRecDepth 20000 in
theorem ggL_law_X11_bestDiscount_p9 : GoodIn wsL_law wsX11_bestDiscount_r9 := goodIn_r _ [312, 313, 63, 314, 315, 316, 317, 318, 319, 320, 321, 322, 323, 324, 325, 48, 326, 327, 328, 329, 49, 330, 331, 332] (by decide +kernel) (by decide +kernel)
set_option maxRecDepth 20000 in
theorem ggL_law_X11_bestDiscount_p10 : GoodIn wsL_law wsX11_bestDiscount_r10 := goodIn_r _ [333, 334, 335, 336, 337, 338, 339, 340, 341, 342, 64, 343, 344, 345, 346, 347, 348, 349, 350, 351, 352, 353, 354, 355] (by decide +kernel) (by decide +kernel)
set_option maxRecDepth 20000 in
theorem ggL_law_X11_bestDiscount_p11 : GoodIn wsL_law wsX11_bestDiscount_r11 := goodIn_r _ [356, 357, 358, 359, 360, 361, 31, 362, 78, 80, 81, 363, 364, 365, 366, 367, 368, 369, 370, 371, 372, 373, 374, 375] (by decide +kernel) (by decide +kernel)
set_option maxRecDepth 20000 in
theorem ggL_law_X11_bestDiscount_p12 : GoodIn wsL_law wsX11_bestDiscount_r12 := goodIn_r _ [376, 377, 378, 379, 380, 381, 382, 383, 384, 385, 386, 79, 387, 388, 389, 390, 391, 392, 393, 394, 395, 396, 397, 398] (by decide +kernel) (by decide +kernel)
set_option maxRecDepth 20000 in
theorem ggL_law_X11_bestDiscount_p13 : GoodIn wsL_law wsX11_bestDiscount_r13 := goodIn_r _ [399] (by decide +kernel) (by decide +kernel)
set_option maxRecDepth 20000 in
theorem ggL_law_X11_bestDiscount_p14 : GoodIn wsL_law wsX110 := goodIn_r _ [761, 762, 763, 764, 765, 766, 767] (by decide +kernel) (by decide +kernel)
set_option maxRecDepth 20000 in
theorem ggL_law_X11_bestDiscount_p15 : GoodIn wsL_law wsX80 := goodIn_r _ [779, 780, 781, 782, 783, 784, 785, 786, 787, 788, 789, 790] (by decide +kernel) (by decide +kernel)
set_option maxRecDepth 20000 in
theorem ggL_law_X11_bestDiscount_p16 : GoodIn wsL_law wsX100 := goodIn_r _ [804, 805, 806, 807, 808] (by decide +kernel) (by decide +kernel)
set_option maxRecDepth 20000 in
theorem ggL_law_X11_bestDiscount_p17 : GoodIn wsL_law wsX00 := goodIn_r _ [768, 769, 770, 771, 772] (by decide +kernel) (by decide +kernel)
set_option maxRecDepth 20000 in
theorem ggL_law_X11_bestDiscount_p18 : GoodIn wsL_law wsX60 := goodIn_r _ [773, 774, 775, 776, 777, 778] (by decide +kernel) (by decide +kernel)
set_option maxRecDepth 20000 in
theorem ggL_law_X11_bestDiscount_p19 : GoodIn wsL_law wsX20 := goodIn_r _ [809, 810, 811, 812, 813, 814, 815, 816, 817] (by decide +kernel) (by decide +kernel)
set_option maxRecDepth 20000 in
theorem ggL_law_X11_bestDiscount_p20 : GoodIn wsL_law wsX30 := goodIn_r _ [818, 819, 820, 821] (by decide +kernel) (by decide +kernel)
set_option maxRecDepth 20000 in
theorem ggL_law_X11_bestDiscount_p21 : GoodIn wsL_law wsX70 := goodIn_r _ [822, 823, 824, 825] (by decide +kernel) (by decide +kernel)
set_option maxRecDepth 20000 in
theorem ggL_law_X11_bestDiscount_p22 : GoodIn wsL_law wsX90 := goodIn_r _ [826, 827, 828, 829] (by decide +kernel) (by decide +kernel)
set_option maxRecDepth 20000 in
theorem ggL_law_X11_bestDiscount_p23 : GoodIn wsL_law wsX10 := goodIn_r _ [791, 792, 793, 794] (by decide +kernel) (by decide +kernel)
set_option maxRecDepth 20000 in
theorem ggL_law_X11_bestDiscount : GoodIn wsL_law wsX11_bestDiscount := goodIn_ca (goodIn_ca (goodIn_app ggL_law_X11_bestDiscount_p0 (goodIn_app (goodIn_app (goodIn_app (goodIn_app (goodIn_app (goodIn_app (goodIn_app (goodIn_app (goodIn_app (goodIn_app (goodIn_app ggL_law_X11_bestDiscount_p1 (goodIn_app ggL_law_X11_bestDiscount_p2 (goodIn_app ggL_law_X11_bestDiscount_p3 (goodIn_app ggL_law_X11_bestDiscount_p4 (goodIn_app ggL_law_X11_bestDiscount_p5 (goodIn_app ggL_law_X11_bestDiscount_p6 (goodIn_app ggL_law_X11_bestDiscount_p7 (goodIn_app ggL_law_X11_bestDiscount_p8 (goodIn_app ggL_law_X11_bestDiscount_p9 (goodIn_app ggL_law_X11_bestDiscount_p10 (goodIn_app ggL_law_X11_bestDiscount_p11 (goodIn_app ggL_law_X11_bestDiscount_p12 ggL_law_X11_bestDiscount_p13)))))))))))) ggL_law_X11_bestDiscount_p14) ggL_law_X11_bestDiscount_p15) ggL_law_X11_bestDiscount_p16) ggL_law_X11_bestDiscount_p17) ggL_law_X11_bestDiscount_p18) ggL_law_X11_bestDiscount_p19) ggL_law_X11_bestDiscount_p20) ggL_law_X11_bestDiscount_p21) ggL_law_X11_bestDiscount_p22) ggL_law_X11_bestDiscount_p23)) (goodIn_sub (fun _ h => List.mem_append_left _ (List.mem_append_left _ (List.mem_append_left _ (List.mem_append_left _ (List.mem_append_left _ (List.mem_append_left _ (List.mem_append_left _ (List.mem_append_right _ h)))))))) (by decide +kernel))) (goodIn_sub (fun _ h => List.mem_append_left _ (List.mem_append_left _ (List.mem_append_left _ (List.mem_append_left _ (List.mem_append_left _ (List.mem_append_left _ (List.mem_append_right _ h))))))) (by decide +kernel))
set_option maxRecDepth 20000 in
theorem gL_law_X11_bestDiscount : GoodIn wsL_law (wsV RL 112 RX11 yX11_bestDiscount wsX11_bestDiscount) := goodIn_app (goodIn_of _ (by decide +kernel)) ggL_law_X11_bestDiscount
set_option maxRecDepth 20000 in
theorem ggL_law_L_offer_p0 : GoodIn wsL_law [.codeWith yL_offer cL_offer 6 (some .int) [(0, 85, 86, 13), (0, 85, 92, 15)]] := goodIn_r _ [554] (by decide +kernel) (by decide +kernel)
set_option maxRecDepth 20000 in
theorem ggL_law_L_offer_p1 : GoodIn wsL_law wsL_offer_r1 := goodIn_r _ [480, 481, 555, 556, 557, 2, 558, 486, 487, 488, 489, 24, 559, 560, 234, 490, 372, 373, 561, 562, 563, 564, 565, 566] (by decide +kernel) (by decide +kernel)
set_option maxRecDepth 20000 in
theorem ggL_law_L_offer_p2 : GoodIn wsL_law wsL_offer_r2 := goodIn_r _ [23, 567, 141, 568, 569, 570, 271, 272, 571, 572, 199, 573, 574, 15, 16, 201, 575, 576, 577, 578, 579, 169, 580, 581] (by decide +kernel) (by decide +kernel)
set_option maxRecDepth 20000 in
theorem ggL_law_L_offer_p3 : GoodIn wsL_law wsL_offer_r3 := goodIn_r _ [582, 583, 47, 48, 49, 50, 584, 585, 586, 587, 588, 589, 590, 591, 131, 132, 184, 185, 592, 593, 594, 595, 596, 597] (by decide +kernel) (by decide +kernel)
set_option maxRecDepth 20000 in
theorem ggL_law_L_offer_p4 : GoodIn wsL_law wsL_offer_r4 := goodIn_r _ [598, 599, 600, 601, 602, 603, 604, 605, 606, 607, 608, 609, 610, 611, 612, 613, 614, 615, 616, 617, 618, 619, 620, 621] (by decide +kernel) (by decide +kernel)
set_option maxRecDepth 20000 in
theorem ggL_law_L_offer_p5 : GoodIn wsL_law wsL_offer_r5 := goodIn_r _ [622, 229, 623, 624, 625, 259, 231, 626, 627, 628, 629, 630, 631, 632, 223, 633, 634, 635, 244, 246, 225, 249, 245, 247] (by decide +kernel) (by decide +kernel)
set_option maxRecDepth 20000 in
theorem ggL_law_L_offer_p6 : GoodIn wsL_law wsL_offer_r6 := goodIn_r _ [248, 636, 637, 638, 639, 640, 641, 642, 643, 644, 645, 646] (by decide +kernel) (by decide +kernel)
set_option maxRecDepth 20000 in
theorem ggL_law_L_offer_p7 : GoodIn wsL_law wsX110 := goodIn_r _ [761, 762, 763, 764, 765, 766, 767] (by decide +kernel) (by decide +kernel)
set_option maxRecDepth 20000 in
theorem ggL_law_L_offer_p8 : GoodIn wsL_law wsX70 := goodIn_r _ [822, 823, 824, 825] (by decide +kernel) (by decide +kernel)
set_option maxRecDepth 20000 in
theorem ggL_law_L_offer_p9 : GoodIn wsL_law wsX60 := goodIn_r _ [773, 774, 775, 776, 777, 778] (by decide +kernel) (by decide +kernel)
set_option maxRecDepth 20000 in
theorem ggL_law_L_offer_p10 : GoodIn wsL_law wsX20 := goodIn_r _ [809, 810, 811, 812, 813, 814, 815, 816, 817] (by decide +kernel) (by decide +kernel)
set_option maxRecDepth 20000 in
theorem ggL_law_L_offer_p11 : GoodIn wsL_law wsX30 := goodIn_r _ [818, 819, 820, 821] (by decide +kernel) (by decide +kernel)
set_option maxRecDepth 20000 in
theorem ggL_law_L_offer_p12 : GoodIn wsL_law wsX90 := goodIn_r _ [826, 827, 828, 829] (by decide +kernel) (by decide +kernel)
set_option maxRecDepth 20000 in
theorem ggL_law_L_offer : GoodIn wsL_law wsL_offer := goodIn_ca (goodIn_ca (goodIn_ca (goodIn_app ggL_law_L_offer_p0 (goodIn_app (goodIn_app (goodIn_app (goodIn_app (goodIn_app (goodIn_app (goodIn_app ggL_law_L_offer_p1 (goodIn_app ggL_law_L_offer_p2 (goodIn_app ggL_law_L_offer_p3 (goodIn_app ggL_law_L_offer_p4 (goodIn_app ggL_law_L_offer_p5 ggL_law_L_offer_p6))))) ggL_law_L_offer_p7) ggL_law_L_offer_p8) ggL_law_L_offer_p9) ggL_law_L_offer_p10) ggL_law_L_offer_p11) ggL_law_L_offer_p12)) (goodIn_sub (fun _ h => List.mem_append_left _ (List.mem_append_left _ (List.mem_append_left _ (List.mem_append_left _ (List.mem_append_left _ (List.mem_append_left _ (List.mem_append_left _ (List.mem_append_right _ h)))))))) (by decide +kernel))) (goodIn_sub (fun _ h => List.mem_append_left _ (List.mem_append_left _ (List.mem_append_left _ (List.mem_append_right _ h)))) (by decide +kernel))) (goodIn_sub (fun _ h => List.mem_append_left _ (List.mem_append_left _ (List.mem_append_right _ h))) (by decide +kernel))
set_option maxRecDepth 20000 in
theorem gL_law_L_offer : GoodIn wsL_law (va_wsS RL 168 yL_offer wsL_offer) := goodIn_app (goodIn_of _ (by decide +kernel)) ggL_law_L_offer
set_option maxRecDepth 20000 in
theorem ggL_law_L_customer : GoodIn wsL_law wsL_customer := goodIn_ca (goodIn_r _ [649, 480, 650, 651, 652, 2, 653, 486, 487, 170, 169, 490, 372, 373, 761, 762, 763, 764, 765, 766, 767] (by decide +kernel) (by decide +kernel)) (goodIn_sub (fun _ h => List.mem_append_left _ (List.mem_append_left _ (List.mem_append_left _ (List.mem_append_right _ h)))) (by decide +kernel))
set_option maxRecDepth 20000 in
theorem gL_law_L_customer : GoodIn wsL_law (va_wsS RL 172 yL_customer wsL_customer) := goodIn_app (goodIn_of _ (by decide +kernel)) ggL_law_L_customer
set_option maxRecDepth 20000 in
theorem ggL_law_X11_toPay_p0 : GoodIn wsL_law [.code yX11_toPay cX11_toPay 1 (some .int)] := goodIn_r _ [657] (by decide +kernel) (by decide +kernel)
set_option maxRecDepth 20000 in
theorem ggL_law_X11_toPay_p1 : GoodIn wsL_law wsX11_toPay_r1 := goodIn_r _ [32, 165, 166, 167, 2, 168, 169, 28, 170, 171, 172, 173, 27, 174, 59, 65, 66, 60, 175, 176, 177, 178, 179, 180] (by decide +kernel) (by decide +kernel)
set_option maxRecDepth 20000 in
theorem ggL_law_X11_toPay_p2 : GoodIn wsL_law wsX11_toPay_r2 := goodIn_r _ [58, 181, 182, 73, 183, 111, 112, 19, 113, 114, 184, 185, 186, 138, 139, 23, 140, 141, 187, 188, 189, 190, 51, 191] (by decide +kernel) (by decide +kernel)
set_option maxRecDepth 20000 in
theorem ggL_law_X11_toPay_p3 : GoodIn wsL_law wsX11_toPay_r3 := goodIn_r _ [192, 193, 194, 47, 195, 196, 197, 198, 199, 200, 201, 202, 203, 204, 131, 132, 205, 206, 207, 208, 209, 123, 124, 210] (by decide +kernel) (by decide +kernel)
set_option maxRecDepth 20000 in
theorem ggL_law_X11_toPay_p4 : GoodIn wsL_law wsX11_toPay_r4 := goodIn_r _ [120, 121, 122, 211, 212, 213, 214, 215, 216, 217, 218, 219, 220, 221, 222, 223, 224, 225, 226, 227, 228, 229, 230, 231] (by decide +kernel) (by decide +kernel)
set_option maxRecDepth 20000 in
theorem ggL_law_X11_toPay_p5 : GoodIn wsL_law wsX11_toPay_r5 := goodIn_r _ [232, 233, 234, 235, 236, 237, 238, 239, 240, 241, 242, 243, 244, 245, 246, 247, 248, 249, 250, 251, 252, 253, 41, 129] (by decide +kernel) (by decide +kernel)
set_option maxRecDepth 20000 in
theorem ggL_law_X11_toPay_p6 : GoodIn wsL_law wsX11_toPay_r6 := goodIn_r _ [130, 254, 126, 127, 128, 42, 255, 256, 257, 258, 259, 260, 261, 262, 263, 264, 265, 266, 7, 267, 268, 269, 270, 271] (by decide +kernel) (by decide +kernel)
set_option maxRecDepth 20000 in
theorem ggL_law_X11_toPay_p7 : GoodIn wsL_law wsX11_toPay_r7 := goodIn_r _ [272, 273, 274, 275, 276, 277, 278, 279, 280, 70, 71, 72, 281, 282, 283, 284, 285, 286, 287, 61, 288, 289, 290, 291] (by decide +kernel) (by decide +kernel)
set_option maxRecDepth 20000 in
theorem ggL_law_X11_toPay_p8 : GoodIn wsL_law wsX11_toPay_r8 := goodIn_r _ [50, 292, 293, 294, 295, 62, 296, 6, 8, 297, 298, 299, 300, 301, 302, 303, 304, 305, 306, 307, 308, 309, 310, 311] (by decide +kernel) (by decide +kernel)
set_option maxRecDepth 20000 in
theorem ggL_law_X11_toPay_p9 : GoodIn wsL_law wsX11_toPay_r9 := goodIn_r _ [312, 313, 63, 314, 315, 316, 317, 318, 319, 320, 321, 322, 323, 324, 325, 48, 326, 327, 328, 329, 49, 330, 331, 332] (by decide +kernel) (by decide +kernel)
set_option maxRecDepth 20000 in
theorem ggL_law_X11_toPay_p10 : GoodIn wsL_law wsX11_toPay_r10 := goodIn_r _ [333, 334, 335, 336, 337, 338, 339, 340, 341, 342, 64, 343, 344, 345, 346, 347, 348, 349, 350, 351, 352, 353, 354, 355] (by decide +kernel) (by decide +kernel)
set_option maxRecDepth 20000 in
theorem ggL_law_X11_toPay_p11 : GoodIn wsL_law wsX11_toPay_r11 := goodIn_r _ [356, 357, 358, 359, 360, 361, 31, 362, 78, 80, 81, 363, 364, 365, 366, 367, 368, 369, 370, 371, 372, 373, 374, 375] (by decide +kernel) (by decide +kernel)
set_option maxRecDepth 20000 in
theorem ggL_law_X11_toPay_p12 : GoodIn wsL_law wsX11_toPay_r12 := goodIn_r _ [376, 377, 378, 379, 380, 381, 382, 383, 384, 385, 386, 79, 387, 388, 389, 390, 391, 392, 393, 394, 395, 658, 659, 660] (by decide +kernel) (by decide +kernel)
set_option maxRecDepth 20000 in
theorem ggL_law_X11_toPay_p13 : GoodIn wsL_law wsX11_toPay_r13 := goodIn_r _ [661] (by decide +kernel) (by decide +kernel)
set_option maxRecDepth 20000 in
theorem ggL_law_X11_toPay_p14 : GoodIn wsL_law wsX110 := goodIn_r _ [761, 762, 763, 764, 765, 766, 767] (by decide +kernel) (by decide +kernel)
set_option maxRecDepth 20000 in
theorem ggL_law_X11_toPay_p15 : GoodIn wsL_law wsX80 := goodIn_r _ [779, 780, 781, 782, 783, 784, 785, 786, 787, 788, 789, 790] (by decide +kernel) (by decide +kernel)
set_option maxRecDepth 20000 in
theorem ggL_law_X11_toPay_p16 : GoodIn wsL_law wsX100 := goodIn_r _ [804, 805, 806, 807, 808] (by decide +kernel) (by decide +kernel)
set_option maxRecDepth 20000 in
theorem ggL_law_X11_toPay_p17 : GoodIn wsL_law wsX00 := goodIn_r _ [768, 769, 770, 771, 772] (by decide +kernel) (by decide +kernel)
set_option maxRecDepth 20000 in
theorem ggL_law_X11_toPay_p18 : GoodIn wsL_law wsX60 := goodIn_r _ [773, 774, 775, 776, 777, 778] (by decide +kernel) (by decide +kernel)
set_option maxRecDepth 20000 in
theorem ggL_law_X11_toPay_p19 : GoodIn wsL_law wsX20 := goodIn_r _ [809, 810, 811, 812, 813, 814, 815, 816, 817] (by decide +kernel) (by decide +kernel)
set_option maxRecDepth 20000 in
theorem ggL_law_X11_toPay_p20 : GoodIn wsL_law wsX30 := goodIn_r _ [818, 819, 820, 821] (by decide +kernel) (by decide +kernel)
set_option maxRecDepth 20000 in
theorem ggL_law_X11_toPay_p21 : GoodIn wsL_law wsX70 := goodIn_r _ [822, 823, 824, 825] (by decide +kernel) (by decide +kernel)
set_option maxRecDepth 20000 in
theorem ggL_law_X11_toPay_p22 : GoodIn wsL_law wsX90 := goodIn_r _ [826, 827, 828, 829] (by decide +kernel) (by decide +kernel)
set_option maxRecDepth 20000 in
theorem ggL_law_X11_toPay_p23 : GoodIn wsL_law wsX10 := goodIn_r _ [791, 792, 793, 794] (by decide +kernel) (by decide +kernel)
set_option maxRecDepth 20000 in
theorem ggL_law_X11_toPay : GoodIn wsL_law wsX11_toPay := goodIn_ca (goodIn_ca (goodIn_app ggL_law_X11_toPay_p0 (goodIn_app (goodIn_app (goodIn_app (goodIn_app (goodIn_app (goodIn_app (goodIn_app (goodIn_app (goodIn_app (goodIn_app (goodIn_app ggL_law_X11_toPay_p1 (goodIn_app ggL_law_X11_toPay_p2 (goodIn_app ggL_law_X11_toPay_p3 (goodIn_app ggL_law_X11_toPay_p4 (goodIn_app ggL_law_X11_toPay_p5 (goodIn_app ggL_law_X11_toPay_p6 (goodIn_app ggL_law_X11_toPay_p7 (goodIn_app ggL_law_X11_toPay_p8 (goodIn_app ggL_law_X11_toPay_p9 (goodIn_app ggL_law_X11_toPay_p10 (goodIn_app ggL_law_X11_toPay_p11 (goodIn_app ggL_law_X11_toPay_p12 ggL_law_X11_toPay_p13)))))))))))) ggL_law_X11_toPay_p14) ggL_law_X11_toPay_p15) ggL_law_X11_toPay_p16) ggL_law_X11_toPay_p17) ggL_law_X11_toPay_p18) ggL_law_X11_toPay_p19) ggL_law_X11_toPay_p20) ggL_law_X11_toPay_p21) ggL_law_X11_toPay_p22) ggL_law_X11_toPay_p23)) (goodIn_sub (fun _ h => List.mem_append_left _ (List.mem_append_left _ (List.mem_append_left _ (List.mem_append_left _ (List.mem_append_left _ (List.mem_append_left _ (List.mem_append_left _ (List.mem_append_right _ h)))))))) (by decide +kernel))) (goodIn_sub (fun _ h => List.mem_append_left _ (List.mem_append_left _ (List.mem_append_left _ (List.mem_append_left _ (List.mem_append_left _ (List.mem_append_left _ (List.mem_append_right _ h))))))) (by decide +kernel))
set_option maxRecDepth 20000 in
theorem gL_law_X11_toPay : GoodIn wsL_law (wsV RL 135 RX11 yX11_toPay wsX11_toPay) := goodIn_app (goodIn_of _ (by decide +kernel)) ggL_law_X11_toPay
set_option maxRecDepth 20000 in
theorem ggL_law_X11_offers : GoodIn wsL_law wsX11_offers := goodIn_r _ [136, 24, 137, 138, 139, 23, 140, 141, 761, 762, 763, 764, 765, 766, 767, 773, 774, 775, 776, 777, 778] (by decide +kernel) (by decide +kernel)
set_option maxRecDepth 20000 in
theorem gL_law_X11_offers : GoodIn wsL_law (wsV RL 96 RX11 yX11_offers wsX11_offers) := goodIn_app (goodIn_of _ (by decide +kernel)) ggL_law_X11_offers
set_option maxRecDepth 20000 in
theorem ggL_law_L_of_p0 : GoodIn wsL_law [.codeWith yL_of cL_of 4 (some .int) [(0, 33, 34, 50)]] := goodIn_r _ [402] (by decide +kernel) (by decide +kernel)
set_option maxRecDepth 20000 in
theorem ggL_law_L_of_p1 : GoodIn wsL_law wsL_of_r1 := goodIn_r _ [403, 404, 405, 406, 2, 407, 408, 409, 24, 170, 410, 411, 412, 23, 413, 141, 414, 188, 189, 190, 51, 191, 192, 193] (by decide +kernel) (by decide +kernel)
set_option maxRecDepth 20000 in
theorem ggL_law_L_of_p2 : GoodIn wsL_law wsL_of_r2 := goodIn_r _ [194, 47, 195, 196, 197, 198, 199, 200, 201, 202, 203, 204, 131, 132, 415, 416, 417, 418, 28, 165, 166, 167, 168, 169] (by decide +kernel) (by decide +kernel)
set_option maxRecDepth 20000 in
theorem ggL_law_L_of_p3 : GoodIn wsL_law wsL_of_r3 := goodIn_r _ [32, 171, 172, 173, 27, 174, 59, 65, 66, 60, 175, 176, 177, 178, 179, 180, 58, 181, 182, 73, 183, 111, 112, 19] (by decide +kernel) (by decide +kernel)
set_option maxRecDepth 20000 in
theorem ggL_law_L_of_p4 : GoodIn wsL_law wsL_of_r4 := goodIn_r _ [113, 114, 184, 185, 186, 138, 139, 140, 187, 205, 206, 207, 208, 209, 123, 124, 210, 120, 121, 122, 211, 212, 213, 214] (by decide +kernel) (by decide +kernel)
set_option maxRecDepth 20000 in
theorem ggL_law_L_of_p5 : GoodIn wsL_law wsL_of_r5 := goodIn_r _ [215, 216, 217, 218, 219, 220, 221, 222, 223, 224, 225, 226, 227, 228, 229, 230, 231, 232, 233, 234, 235, 236, 237, 238] (by decide +kernel) (by decide +kernel)
set_option maxRecDepth 20000 in
theorem ggL_law_L_of_p6 : GoodIn wsL_law wsL_of_r6 := goodIn_r _ [239, 240, 241, 242, 243, 244, 245, 246, 247, 248, 249, 250, 251, 252, 253, 41, 129, 130, 254, 126, 127, 128, 42, 255] (by decide +kernel) (by decide +kernel)
set_option maxRecDepth 20000 in
theorem ggL_law_L_of_p7 : GoodIn wsL_law wsL_of_r7 := goodIn_r _ [256, 257, 258, 259, 260, 261, 262, 263, 264, 265, 266, 7, 267, 268, 269, 270, 271, 272, 273, 274, 275, 276, 277, 278] (by decide +kernel) (by decide +kernel)
set_option maxRecDepth 20000 in
theorem ggL_law_L_of_p8 : GoodIn wsL_law wsL_of_r8 := goodIn_r _ [279, 280, 70, 71, 72, 281, 282, 283, 284, 285, 286, 287, 61, 288, 289, 290, 291, 50, 292, 293, 294, 295, 62, 296] (by decide +kernel) (by decide +kernel)
set_option maxRecDepth 20000 in
theorem ggL_law_L_of_p9 : GoodIn wsL_law wsL_of_r9 := goodIn_r _ [6, 8, 297, 298, 299, 300, 301, 302, 303, 304, 305, 306, 307, 308, 309, 310, 311, 312, 313, 63, 314, 315, 316, 317] (by decide +kernel) (by decide +kernel)
set_option maxRecDepth 20000 in
theorem ggL_law_L_of_p10 : GoodIn wsL_law wsL_of_r10 := goodIn_r _ [318, 319, 320, 321, 322, 323, 324, 325, 48, 326, 327, 328, 329, 49, 330, 331, 332, 333, 334, 335, 336, 337, 338, 339] (by decide +kernel) (by decide +kernel)
set_option maxRecDepth 20000 in
theorem ggL_law_L_of_p11 : GoodIn wsL_law wsL_of_r11 := goodIn_r _ [340, 341, 342, 64, 343, 344, 345, 346, 347, 348, 349, 350, 351, 352, 353, 354, 355, 356, 357, 358, 359, 360, 361, 31] (by decide +kernel) (by decide +kernel)
set_option maxRecDepth 20000 in
theorem ggL_law_L_of_p12 : GoodIn wsL_law wsL_of_r12 := goodIn_r _ [362, 78, 80, 81, 363, 364, 365, 366, 367, 368, 369, 370, 371, 372, 373, 374, 375, 376, 377, 378, 379, 380, 381, 382] (by decide +kernel) (by decide +kernel)
set_option maxRecDepth 20000 in
theorem ggL_law_L_of_p13 : GoodIn wsL_law wsL_of_r13 := goodIn_r _ [383, 384, 385, 386, 79, 387, 388, 389, 390, 391, 392, 393, 394, 395, 419, 420, 421, 422, 423, 424, 425, 426, 427, 428] (by decide +kernel) (by decide +kernel)
set_option maxRecDepth 20000 in
theorem ggL_law_L_of_p14 : GoodIn wsL_law wsL_of_r14 := goodIn_r _ [429, 430, 431, 432, 433, 434, 435] (by decide +kernel) (by decide +kernel)
set_option maxRecDepth 20000 in
theorem ggL_law_L_of_p15 : GoodIn wsL_law wsX110 := goodIn_r _ [761, 762, 763, 764, 765, 766, 767] (by decide +kernel) (by decide +kernel)
set_option maxRecDepth 20000 in
theorem ggL_law_L_of_p16 : GoodIn wsL_law wsX60 := goodIn_r _ [773, 774, 775, 776, 777, 778] (by decide +kernel) (by decide +kernel)
set_option maxRecDepth 20000 in
theorem ggL_law_L_of_p17 : GoodIn wsL_law wsX20 := goodIn_r _ [809, 810, 811, 812, 813, 814, 815, 816, 817] (by decide +kernel) (by decide +kernel)
set_option maxRecDepth 20000 in
theorem ggL_law_L_of_p18 : GoodIn wsL_law wsX30 := goodIn_r _ [818, 819, 820, 821] (by decide +kernel) (by decide +kernel)
set_option maxRecDepth 20000 in
theorem ggL_law_L_of_p19 : GoodIn wsL_law wsX70 := goodIn_r _ [822, 823, 824, 825] (by decide +kernel) (by decide +kernel)
set_option maxRecDepth 20000 in
theorem ggL_law_L_of_p20 : GoodIn wsL_law wsX90 := goodIn_r _ [826, 827, 828, 829] (by decide +kernel) (by decide +kernel)
set_option maxRecDepth 20000 in
theorem ggL_law_L_of_p21 : GoodIn wsL_law wsX80 := goodIn_r _ [779, 780, 781, 782, 783, 784, 785, 786, 787, 788, 789, 790] (by decide +kernel) (by decide +kernel)
set_option maxRecDepth 20000 in
theorem ggL_law_L_of_p22 : GoodIn wsL_law wsX100 := goodIn_r _ [804, 805, 806, 807, 808] (by decide +kernel) (by decide +kernel)
set_option maxRecDepth 20000 in
theorem ggL_law_L_of_p23 : GoodIn wsL_law wsX00 := goodIn_r _ [768, 769, 770, 771, 772] (by decide +kernel) (by decide +kernel)
set_option maxRecDepth 20000 in
theorem ggL_law_L_of_p24 : GoodIn wsL_law wsX10 := goodIn_r _ [791, 792, 793, 794] (by decide +kernel) (by decide +kernel)
set_option maxRecDepth 20000 in
theorem ggL_law_L_of : GoodIn wsL_law wsL_of := goodIn_ca (goodIn_ca (goodIn_ca (goodIn_app ggL_law_L_of_p0 (goodIn_app (goodIn_app (goodIn_app (goodIn_app (goodIn_app (goodIn_app (goodIn_app (goodIn_app (goodIn_app (goodIn_app (goodIn_app ggL_law_L_of_p1 (goodIn_app ggL_law_L_of_p2 (goodIn_app ggL_law_L_of_p3 (goodIn_app ggL_law_L_of_p4 (goodIn_app ggL_law_L_of_p5 (goodIn_app ggL_law_L_of_p6 (goodIn_app ggL_law_L_of_p7 (goodIn_app ggL_law_L_of_p8 (goodIn_app ggL_law_L_of_p9 (goodIn_app ggL_law_L_of_p10 (goodIn_app ggL_law_L_of_p11 (goodIn_app ggL_law_L_of_p12 (goodIn_app ggL_law_L_of_p13 ggL_law_L_of_p14))))))))))))) ggL_law_L_of_p15) ggL_law_L_of_p16) ggL_law_L_of_p17) ggL_law_L_of_p18) ggL_law_L_of_p19) ggL_law_L_of_p20) ggL_law_L_of_p21) ggL_law_L_of_p22) ggL_law_L_of_p23) ggL_law_L_of_p24)) (goodIn_sub (fun _ h => List.mem_append_left _ (List.mem_append_left _ (List.mem_append_left _ (List.mem_append_left _ (List.mem_append_left _ (List.mem_append_right _ h)))))) (by decide +kernel))) (goodIn_sub (fun _ h => List.mem_append_left _ (List.mem_append_left _ (List.mem_append_left _ (List.mem_append_left _ (List.mem_append_left _ (List.mem_append_left _ (List.mem_append_left _ (List.mem_append_right _ h)))))))) (by decide +kernel))) (goodIn_sub (fun _ h => List.mem_append_left _ (List.mem_append_left _ (List.mem_append_left _ (List.mem_append_left _ (List.mem_append_left _ (List.mem_append_left _ (List.mem_append_right _ h))))))) (by decide +kernel))
set_option maxRecDepth 20000 in
theorem gL_law_L_of : GoodIn wsL_law (va_wsS RL 115 yL_of wsL_of) := goodIn_app (goodIn_of _ (by decide +kernel)) ggL_law_L_of
set_option maxRecDepth 20000 in
theorem ggL_law_X11_usesInAll : GoodIn wsL_law wsX11_usesInAll := goodIn_r _ [155, 36, 156, 157, 158, 35, 159, 160, 761, 762, 763, 764, 765, 766, 767, 795, 796, 797, 798, 799, 800, 801, 802, 803] (by decide +kernel) (by decide +kernel)
set_option maxRecDepth 20000 in
theorem gL_law_X11_usesInAll : GoodIn wsL_law (wsV RL 107 RX11 yX11_usesInAll wsX11_usesInAll) := goodIn_app (goodIn_of _ (by decide +kernel)) ggL_law_X11_usesInAll
set_option maxRecDepth 20000 in
theorem ggL_law_X11_turnover : GoodIn wsL_law wsX11_turnover := goodIn_r _ [145, 36, 146, 147, 148, 35, 149, 150, 151, 761, 762, 763, 764, 765, 766, 767, 795, 796, 797, 798, 799, 800, 801, 802, 803] (by decide +kernel) (by decide +kernel)
set_option maxRecDepth 20000 in
theorem gL_law_X11_turnover : GoodIn wsL_law (wsV RL 101 RX11 yX11_turnover wsX11_turnover) := goodIn_app (goodIn_of _ (by decide +kernel)) ggL_law_X11_turnover
set_option maxRecDepth 20000 in
theorem ggL_law_L_sell_p0 : GoodIn wsL_law [.codeWith yL_sell cL_sell 2 (some .int) [(0, 4, 5, 15)]] := goodIn_r _ [664] (by decide +kernel) (by decide +kernel)
set_option maxRecDepth 20000 in
theorem ggL_law_L_sell_p1 : GoodIn wsL_law wsL_sell_r1 := goodIn_r _ [481, 665, 666, 667, 2, 668, 488, 489, 20, 32, 36, 170, 24, 28, 169, 110, 111, 112, 19, 113, 114, 165, 166, 167] (by decide +kernel) (by decide +kernel)
set_option maxRecDepth 20000 in
theorem ggL_law_L_sell_p2 : GoodIn wsL_law wsL_sell_r2 := goodIn_r _ [168, 171, 172, 173, 27, 174, 59, 65, 66, 60, 175, 176, 177, 178, 179, 180, 58, 181, 182, 73, 183, 184, 185, 186] (by decide +kernel) (by decide +kernel)
set_option maxRecDepth 20000 in
theorem ggL_law_L_sell_p3 : GoodIn wsL_law wsL_sell_r3 := goodIn_r _ [138, 139, 23, 140, 141, 187, 188, 189, 190, 51, 191, 192, 193, 194, 47, 195, 196, 197, 198, 199, 200, 201, 202, 203] (by decide +kernel) (by decide +kernel)
set_option maxRecDepth 20000 in
theorem ggL_law_L_sell_p4 : GoodIn wsL_law wsL_sell_r4 := goodIn_r _ [204, 131, 132, 205, 206, 207, 208, 209, 123, 124, 210, 120, 121, 122, 211, 212, 213, 214, 215, 216, 217, 218, 219, 220] (by decide +kernel) (by decide +kernel)
set_option maxRecDepth 20000 in
theorem ggL_law_L_sell_p5 : GoodIn wsL_law wsL_sell_r5 := goodIn_r _ [221, 222, 223, 224, 225, 226, 227, 228, 229, 230, 231, 232, 233, 234, 235, 236, 237, 238, 239, 240, 241, 242, 243, 244] (by decide +kernel) (by decide +kernel)
set_option maxRecDepth 20000 in
theorem ggL_law_L_sell_p6 : GoodIn wsL_law wsL_sell_r6 := goodIn_r _ [245, 246, 247, 248, 249, 250, 251, 252, 253, 41, 129, 130, 254, 126, 127, 128, 42, 255, 256, 257, 258, 259, 260, 261] (by decide +kernel) (by decide +kernel)
set_option maxRecDepth 20000 in
theorem ggL_law_L_sell_p7 : GoodIn wsL_law wsL_sell_r7 := goodIn_r _ [262, 263, 264, 265, 266, 7, 267, 268, 269, 270, 271, 272, 273, 274, 275, 276, 277, 278, 279, 280, 70, 71, 72, 281] (by decide +kernel) (by decide +kernel)
set_option maxRecDepth 20000 in
theorem ggL_law_L_sell_p8 : GoodIn wsL_law wsL_sell_r8 := goodIn_r _ [282, 283, 284, 285, 286, 287, 61, 288, 289, 290, 291, 50, 292, 293, 294, 295, 62, 296, 6, 8, 297, 298, 299, 300] (by decide +kernel) (by decide +kernel)
set_option maxRecDepth 20000 in
theorem ggL_law_L_sell_p9 : GoodIn wsL_law wsL_sell_r9 := goodIn_r _ [301, 302, 303, 304, 305, 306, 307, 308, 309, 310, 311, 312, 313, 63, 314, 315, 316, 317, 318, 319, 320, 321, 322, 323] (by decide +kernel) (by decide +kernel)
set_option maxRecDepth 20000 in
theorem ggL_law_L_sell_p10 : GoodIn wsL_law wsL_sell_r10 := goodIn_r _ [324, 325, 48, 326, 327, 328, 329, 49, 330, 331, 332, 333, 334, 335, 336, 337, 338, 339, 340, 341, 342, 64, 343, 344] (by decide +kernel) (by decide +kernel)
set_option maxRecDepth 20000 in
theorem ggL_law_L_sell_p11 : GoodIn wsL_law wsL_sell_r11 := goodIn_r _ [345, 346, 347, 348, 349, 350, 351, 352, 353, 354, 355, 356, 357, 358, 359, 360, 361, 31, 362, 78, 80, 81, 363, 364] (by decide +kernel) (by decide +kernel)
set_option maxRecDepth 20000 in
theorem ggL_law_L_sell_p12 : GoodIn wsL_law wsL_sell_r12 := goodIn_r _ [365, 366, 367, 368, 369, 370, 371, 372, 373, 374, 375, 376, 377, 378, 379, 380, 381, 382, 383, 384, 385, 386, 79, 387] (by decide +kernel) (by decide +kernel)
set_option maxRecDepth 20000 in
theorem ggL_law_L_sell_p13 : GoodIn wsL_law wsL_sell_r13 := goodIn_r _ [388, 389, 390, 391, 392, 393, 394, 395, 658, 659, 660, 661, 669, 670, 671, 672, 40, 673, 450, 451, 452, 453, 674, 675] (by decide +kernel) (by decide +kernel)
set_option maxRecDepth 20000 in
theorem ggL_law_L_sell_p14 : GoodIn wsL_law wsL_sell_r14 := goodIn_r _ [676, 35, 677, 86, 88, 89, 678, 679, 150, 137, 419, 420, 421, 422, 423, 680, 681, 682, 683, 684, 685, 686, 687, 160] (by decide +kernel) (by decide +kernel)
set_option maxRecDepth 20000 in
theorem ggL_law_L_sell_p15 : GoodIn wsL_law wsL_sell_r15 := goodIn_r _ [688, 689, 690, 691] (by decide +kernel) (by decide +kernel)
set_option maxRecDepth 20000 in
theorem ggL_law_L_sell_p16 : GoodIn wsL_law wsX110 := goodIn_r _ [761, 762, 763, 764, 765, 766, 767] (by decide +kernel) (by decide +kernel)
set_option maxRecDepth 20000 in
theorem ggL_law_L_sell_p17 : GoodIn wsL_law wsX00 := goodIn_r _ [768, 769, 770, 771, 772] (by decide +kernel) (by decide +kernel)
set_option maxRecDepth 20000 in
theorem ggL_law_L_sell_p18 : GoodIn wsL_law wsX80 := goodIn_r _ [779, 780, 781, 782, 783, 784, 785, 786, 787, 788, 789, 790] (by decide +kernel) (by decide +kernel)
set_option maxRecDepth 20000 in
theorem ggL_law_L_sell_p19 : GoodIn wsL_law wsX100 := goodIn_r _ [804, 805, 806, 807, 808] (by decide +kernel) (by decide +kernel)
set_option maxRecDepth 20000 in
theorem ggL_law_L_sell_p20 : GoodIn wsL_law wsX60 := goodIn_r _ [773, 774, 775, 776, 777, 778] (by decide +kernel) (by decide +kernel)
set_option maxRecDepth 20000 in
theorem ggL_law_L_sell_p21 : GoodIn wsL_law wsX20 := goodIn_r _ [809, 810, 811, 812, 813, 814, 815, 816, 817] (by decide +kernel) (by decide +kernel)
set_option maxRecDepth 20000 in
theorem ggL_law_L_sell_p22 : GoodIn wsL_law wsX30 := goodIn_r _ [818, 819, 820, 821] (by decide +kernel) (by decide +kernel)
set_option maxRecDepth 20000 in
theorem ggL_law_L_sell_p23 : GoodIn wsL_law wsX70 := goodIn_r _ [822, 823, 824, 825] (by decide +kernel) (by decide +kernel)
set_option maxRecDepth 20000 in
theorem ggL_law_L_sell_p24 : GoodIn wsL_law wsX90 := goodIn_r _ [826, 827, 828, 829] (by decide +kernel) (by decide +kernel)
set_option maxRecDepth 20000 in
theorem ggL_law_L_sell_p25 : GoodIn wsL_law wsX10 := goodIn_r _ [791, 792, 793, 794] (by decide +kernel) (by decide +kernel)
set_option maxRecDepth 20000 in
theorem ggL_law_L_sell_p26 : GoodIn wsL_law wsX40 := goodIn_r _ [795, 796, 797, 798, 799, 800, 801, 802, 803] (by decide +kernel) (by decide +kernel)
set_option maxRecDepth 20000 in
theorem ggL_law_L_sell : GoodIn wsL_law wsL_sell := goodIn_ca (goodIn_ca (goodIn_ca (goodIn_app ggL_law_L_sell_p0 (goodIn_app (goodIn_app (goodIn_app (goodIn_app (goodIn_app (goodIn_app (goodIn_app (goodIn_app (goodIn_app (goodIn_app (goodIn_app (goodIn_app ggL_law_L_sell_p1 (goodIn_app ggL_law_L_sell_p2 (goodIn_app ggL_law_L_sell_p3 (goodIn_app ggL_law_L_sell_p4 (goodIn_app ggL_law_L_sell_p5 (goodIn_app ggL_law_L_sell_p6 (goodIn_app ggL_law_L_sell_p7 (goodIn_app ggL_law_L_sell_p8 (goodIn_app ggL_law_L_sell_p9 (goodIn_app ggL_law_L_sell_p10 (goodIn_app ggL_law_L_sell_p11 (goodIn_app ggL_law_L_sell_p12 (goodIn_app ggL_law_L_sell_p13 (goodIn_app ggL_law_L_sell_p14 ggL_law_L_sell_p15)))))))))))))) ggL_law_L_sell_p16) ggL_law_L_sell_p17) ggL_law_L_sell_p18) ggL_law_L_sell_p19) ggL_law_L_sell_p20) ggL_law_L_sell_p21) ggL_law_L_sell_p22) ggL_law_L_sell_p23) ggL_law_L_sell_p24) ggL_law_L_sell_p25) ggL_law_L_sell_p26)) (goodIn_sub (fun _ h => List.mem_append_left _ (List.mem_append_left _ (List.mem_append_right _ h))) (by decide +kernel))) (goodIn_sub (fun _ h => List.mem_append_left _ (List.mem_append_left _ (List.mem_append_left _ (List.mem_append_left _ (List.mem_append_left _ (List.mem_append_left _ (List.mem_append_left _ (List.mem_append_right _ h)))))))) (by decide +kernel))) (goodIn_sub (fun _ h => List.mem_append_left _ (List.mem_append_left _ (List.mem_append_left _ (List.mem_append_left _ (List.mem_append_left _ (List.mem_append_left _ (List.mem_append_right _ h))))))) (by decide +kernel))
set_option maxRecDepth 20000 in
theorem gL_law_L_sell : GoodIn wsL_law (va_wsS RL 175 yL_sell wsL_sell) := goodIn_app (goodIn_of _ (by decide +kernel)) ggL_law_L_sell
set_option maxRecDepth 20000 in
theorem ggL_law_L_back : GoodIn wsL_law wsL_back := goodIn_ca (goodIn_ca (goodIn_ca (goodIn_r _ [694, 439, 481, 695, 696, 697, 2, 698, 444, 445, 488, 489, 36, 469, 470, 471, 35, 472, 86, 699, 700, 701, 702, 87, 703, 704, 705, 706, 151, 89, 131, 132, 761, 762, 763, 764, 765, 766, 767, 795, 796, 797, 798, 799, 800, 801, 802, 803] (by decide +kernel) (by decide +kernel)) (goodIn_sub (fun _ h => List.mem_append_left _ (List.mem_append_left _ (List.mem_append_left _ (List.mem_append_left _ (List.mem_append_right _ h))))) (by decide +kernel))) (goodIn_sub (fun _ h => List.mem_append_left _ (List.mem_append_left _ (List.mem_append_right _ h))) (by decide +kernel))) (goodIn_sub (fun _ h => List.mem_append_left _ (List.mem_append_left _ (List.mem_append_left _ (List.mem_append_left _ (List.mem_append_left _ (List.mem_append_left _ (List.mem_append_left _ (List.mem_append_right _ h)))))))) (by decide +kernel))
set_option maxRecDepth 20000 in
theorem gL_law_L_back : GoodIn wsL_law (va_wsS RL 177 yL_back wsL_back) := goodIn_app (goodIn_of _ (by decide +kernel)) ggL_law_L_back
set_option maxRecDepth 20000 in
theorem ggL_law_L_isSound_p0 : GoodIn wsL_law [.code yL_isSound cL_isSound 12 (some .boolean)] := goodIn_r _ [709] (by decide +kernel) (by decide +kernel)
set_option maxRecDepth 20000 in
theorem ggL_law_L_isSound_p1 : GoodIn wsL_law wsL_isSound_r1 := goodIn_r _ [3, 5, 6, 7, 8, 161, 162, 163, 2, 164, 28, 165, 166, 167, 168, 169, 170, 32, 171, 172, 173, 27, 174, 59] (by decide +kernel) (by decide +kernel)
set_option maxRecDepth 20000 in
theorem ggL_law_L_isSound_p2 : GoodIn wsL_law wsL_isSound_r2 := goodIn_r _ [65, 66, 60, 175, 176, 177, 178, 179, 180, 58, 181, 182, 73, 183, 111, 112, 19, 113, 114, 184, 185, 186, 138, 139] (by decide +kernel) (by decide +kernel)
set_option maxRecDepth 20000 in
theorem ggL_law_L_isSound_p3 : GoodIn wsL_law wsL_isSound_r3 := goodIn_r _ [23, 140, 141, 187, 188, 189, 190, 51, 191, 192, 193, 194, 47, 195, 196, 197, 198, 199, 200, 201, 202, 203, 204, 131] (by decide +kernel) (by decide +kernel)
set_option maxRecDepth 20000 in
theorem ggL_law_L_isSound_p4 : GoodIn wsL_law wsL_isSound_r4 := goodIn_r _ [132, 205, 206, 207, 208, 209, 123, 124, 210, 120, 121, 122, 211, 212, 213, 214, 215, 216, 217, 218, 219, 220, 221, 222] (by decide +kernel) (by decide +kernel)
set_option maxRecDepth 20000 in
theorem ggL_law_L_isSound_p5 : GoodIn wsL_law wsL_isSound_r5 := goodIn_r _ [223, 224, 225, 226, 227, 228, 229, 230, 231, 232, 233, 234, 235, 236, 237, 238, 239, 240, 241, 242, 243, 244, 245, 246] (by decide +kernel) (by decide +kernel)
set_option maxRecDepth 20000 in
theorem ggL_law_L_isSound_p6 : GoodIn wsL_law wsL_isSound_r6 := goodIn_r _ [247, 248, 249, 250, 251, 252, 253, 41, 129, 130, 254, 126, 127, 128, 42, 255, 256, 257, 258, 259, 260, 261, 262, 263] (by decide +kernel) (by decide +kernel)
set_option maxRecDepth 20000 in
theorem ggL_law_L_isSound_p7 : GoodIn wsL_law wsL_isSound_r7 := goodIn_r _ [264, 265, 266, 267, 268, 269, 270, 271, 272, 273, 274, 275, 276, 277, 278, 279, 280, 70, 71, 72, 281, 282, 283, 284] (by decide +kernel) (by decide +kernel)
set_option maxRecDepth 20000 in
theorem ggL_law_L_isSound_p8 : GoodIn wsL_law wsL_isSound_r8 := goodIn_r _ [285, 286, 287, 61, 288, 289, 290, 291, 50, 292, 293, 294, 295, 62, 296, 297, 298, 299, 300, 301, 302, 303, 304, 305] (by decide +kernel) (by decide +kernel)
set_option maxRecDepth 20000 in
theorem ggL_law_L_isSound_p9 : GoodIn wsL_law wsL_isSound_r9 := goodIn_r _ [306, 307, 308, 309, 310, 311, 312, 313, 63, 314, 315, 316, 317, 318, 319, 320, 321, 322, 323, 324, 325, 48, 326, 327] (by decide +kernel) (by decide +kernel)
set_option maxRecDepth 20000 in
theorem ggL_law_L_isSound_p10 : GoodIn wsL_law wsL_isSound_r10 := goodIn_r _ [328, 329, 49, 330, 331, 332, 333, 334, 335, 336, 337, 338, 339, 340, 341, 342, 64, 343, 344, 345, 346, 347, 348, 349] (by decide +kernel) (by decide +kernel)
set_option maxRecDepth 20000 in
theorem ggL_law_L_isSound_p11 : GoodIn wsL_law wsL_isSound_r11 := goodIn_r _ [350, 351, 352, 353, 354, 355, 356, 357, 358, 359, 360, 361, 31, 362, 78, 80, 81, 363, 364, 365, 366, 367, 368, 369] (by decide +kernel) (by decide +kernel)
set_option maxRecDepth 20000 in
theorem ggL_law_L_isSound_p12 : GoodIn wsL_law wsL_isSound_r12 := goodIn_r _ [370, 371, 372, 373, 374, 375, 376, 377, 378, 379, 380, 381, 382, 383, 384, 385, 386, 79, 387, 388, 389, 390, 391, 392] (by decide +kernel) (by decide +kernel)
set_option maxRecDepth 20000 in
theorem ggL_law_L_isSound_p13 : GoodIn wsL_law wsL_isSound_r13 := goodIn_r _ [393, 394, 395, 396, 397, 398, 399, 710, 711, 92, 712, 713, 714, 715, 716, 717, 718, 719, 20, 110, 720, 721, 722, 723] (by decide +kernel) (by decide +kernel)
set_option maxRecDepth 20000 in
theorem ggL_law_L_isSound_p14 : GoodIn wsL_law wsL_isSound_r14 := goodIn_r _ [724, 725, 726, 727, 728, 729, 730, 731, 436, 437, 438, 439, 440, 441, 442, 443, 444, 445, 446, 447, 448, 449, 40, 450] (by decide +kernel) (by decide +kernel)
set_option maxRecDepth 20000 in
theorem ggL_law_L_isSound_p15 : GoodIn wsL_law wsL_isSound_r15 := goodIn_r _ [451, 452, 453, 454, 455, 456, 457, 458, 459, 460, 461, 423, 400, 401, 402, 403, 404, 405, 406, 407, 408, 409, 24, 410] (by decide +kernel) (by decide +kernel)
set_option maxRecDepth 20000 in
theorem ggL_law_L_isSound_p16 : GoodIn wsL_law wsL_isSound_r16 := goodIn_r _ [411, 412, 413, 414, 415, 416, 417, 418, 419, 420, 421, 422, 424, 425, 426, 427, 428, 429, 430, 431, 432, 433, 434, 435] (by decide +kernel) (by decide +kernel)
set_option maxRecDepth 20000 in
theorem ggL_law_L_isSound_p17 : GoodIn wsL_law wsL_isSound_r17 := goodIn_r _ [133, 134, 135, 136, 137, 106, 107, 108, 109, 654, 655, 656, 657, 658, 659, 660, 661, 115, 116, 117, 118, 119, 125] (by decide +kernel) (by decide +kernel)
set_option maxRecDepth 20000 in
theorem ggL_law_L_isSound_p18 : GoodIn wsL_law wsX110 := goodIn_r _ [761, 762, 763, 764, 765, 766, 767] (by decide +kernel) (by decide +kernel)
set_option maxRecDepth 20000 in
theorem ggL_law_L_isSound_p19 : GoodIn wsL_law wsX80 := goodIn_r _ [779, 780, 781, 782, 783, 784, 785, 786, 787, 788, 789, 790] (by decide +kernel) (by decide +kernel)
set_option maxRecDepth 20000 in
theorem ggL_law_L_isSound_p20 : GoodIn wsL_law wsX100 := goodIn_r _ [804, 805, 806, 807, 808] (by decide +kernel) (by decide +kernel)
set_option maxRecDepth 20000 in
theorem ggL_law_L_isSound_p21 : GoodIn wsL_law wsX00 := goodIn_r _ [768, 769, 770, 771, 772] (by decide +kernel) (by decide +kernel)
set_option maxRecDepth 20000 in
theorem ggL_law_L_isSound_p22 : GoodIn wsL_law wsX60 := goodIn_r _ [773, 774, 775, 776, 777, 778] (by decide +kernel) (by decide +kernel)
set_option maxRecDepth 20000 in
theorem ggL_law_L_isSound_p23 : GoodIn wsL_law wsX20 := goodIn_r _ [809, 810, 811, 812, 813, 814, 815, 816, 817] (by decide +kernel) (by decide +kernel)
set_option maxRecDepth 20000 in
theorem ggL_law_L_isSound_p24 : GoodIn wsL_law wsX30 := goodIn_r _ [818, 819, 820, 821] (by decide +kernel) (by decide +kernel)
set_option maxRecDepth 20000 in
theorem ggL_law_L_isSound_p25 : GoodIn wsL_law wsX70 := goodIn_r _ [822, 823, 824, 825] (by decide +kernel) (by decide +kernel)
set_option maxRecDepth 20000 in
theorem ggL_law_L_isSound_p26 : GoodIn wsL_law wsX90 := goodIn_r _ [826, 827, 828, 829] (by decide +kernel) (by decide +kernel)
set_option maxRecDepth 20000 in
theorem ggL_law_L_isSound_p27 : GoodIn wsL_law wsX10 := goodIn_r _ [791, 792, 793, 794] (by decide +kernel) (by decide +kernel)
set_option maxRecDepth 20000 in
theorem ggL_law_L_isSound : GoodIn wsL_law wsL_isSound := goodIn_ca (goodIn_ca (goodIn_ca (goodIn_ca (goodIn_ca (goodIn_app ggL_law_L_isSound_p0 (goodIn_app (goodIn_app (goodIn_app (goodIn_app (goodIn_app (goodIn_app (goodIn_app (goodIn_app (goodIn_app (goodIn_app (goodIn_app ggL_law_L_isSound_p1 (goodIn_app ggL_law_L_isSound_p2 (goodIn_app ggL_law_L_isSound_p3 (goodIn_app ggL_law_L_isSound_p4 (goodIn_app ggL_law_L_isSound_p5 (goodIn_app ggL_law_L_isSound_p6 (goodIn_app ggL_law_L_isSound_p7 (goodIn_app ggL_law_L_isSound_p8 (goodIn_app ggL_law_L_isSound_p9 (goodIn_app ggL_law_L_isSound_p10 (goodIn_app ggL_law_L_isSound_p11 (goodIn_app ggL_law_L_isSound_p12 (goodIn_app ggL_law_L_isSound_p13 (goodIn_app ggL_law_L_isSound_p14 (goodIn_app ggL_law_L_isSound_p15 (goodIn_app ggL_law_L_isSound_p16 ggL_law_L_isSound_p17)))))))))))))))) ggL_law_L_isSound_p18) ggL_law_L_isSound_p19) ggL_law_L_isSound_p20) ggL_law_L_isSound_p21) ggL_law_L_isSound_p22) ggL_law_L_isSound_p23) ggL_law_L_isSound_p24) ggL_law_L_isSound_p25) ggL_law_L_isSound_p26) ggL_law_L_isSound_p27)) (goodIn_sub (fun _ h => List.mem_append_left _ (List.mem_append_left _ (List.mem_append_left _ (List.mem_append_left _ (List.mem_append_left _ (List.mem_append_left _ (List.mem_append_left _ (List.mem_append_right _ h)))))))) (by decide +kernel))) (goodIn_sub (fun _ h => List.mem_append_left _ (List.mem_append_left _ (List.mem_append_left _ (List.mem_append_left _ (List.mem_append_left _ (List.mem_append_left _ (List.mem_append_right _ h))))))) (by decide +kernel))) (goodIn_sub (fun _ h => List.mem_append_left _ (List.mem_append_right _ h)) (by decide +kernel))) (goodIn_sub (fun _ h => List.mem_append_left _ (List.mem_append_left _ (List.mem_append_left _ (List.mem_append_left _ (List.mem_append_right _ h))))) (by decide +kernel))) (goodIn_sub (fun _ h => List.mem_append_left _ (List.mem_append_left _ (List.mem_append_left _ (List.mem_append_left _ (List.mem_append_left _ (List.mem_append_right _ h)))))) (by decide +kernel))
set_option maxRecDepth 20000 in
theorem gL_law_L_isSound : GoodIn wsL_law (va_wsS RL 180 yL_isSound wsL_isSound) := goodIn_app (goodIn_of _ (by decide +kernel)) ggL_law_L_isSound
set_option maxRecDepth 20000 in
theorem ggL_law_L_buyer : GoodIn wsL_law wsL_buyer := goodIn_ca (goodIn_ca (goodIn_r _ [464, 439, 465, 466, 467, 2, 468, 444, 445, 36, 469, 470, 471, 35, 472, 86, 473, 474, 475, 476, 88, 131, 132, 761, 762, 763, 764, 765, 766, 767, 795, 796, 797, 798, 799, 800, 801, 802, 803] (by decide +kernel) (by decide +kernel)) (goodIn_sub (fun _ h => List.mem_append_left _ (List.mem_append_left _ (List.mem_append_left _ (List.mem_append_left _ (List.mem_append_right _ h))))) (by decide +kernel))) (goodIn_sub (fun _ h => List.mem_append_left _ (List.mem_append_left _ (List.mem_append_left _ (List.mem_append_left _ (List.mem_append_left _ (List.mem_append_left _ (List.mem_append_left _ (List.mem_append_right _ h)))))))) (by decide +kernel))
set_option maxRecDepth 20000 in
theorem gL_law_L_buyer : GoodIn wsL_law (va_wsS RL 127 yL_buyer wsL_buyer) := goodIn_app (goodIn_of _ (by decide +kernel)) ggL_law_L_buyer
set_option maxRecDepth 20000 in
theorem ggL_law_L_share : GoodIn wsL_law wsL_share := goodIn_ca (goodIn_r _ [734, 735, 9, 736, 737, 738, 2, 739, 740, 741, 36, 742, 743, 744, 35, 745, 679, 746, 747, 748, 749, 150, 761, 762, 763, 764, 765, 766, 767, 795, 796, 797, 798, 799, 800, 801, 802, 803] (by decide +kernel) (by decide +kernel)) (goodIn_sub (fun _ h => List.mem_append_right _ h) (by decide +kernel))
set_option maxRecDepth 20000 in
theorem gL_law_L_share : GoodIn wsL_law (va_wsS RL 184 yL_share wsL_share) := goodIn_app (goodIn_of _ (by decide +kernel)) ggL_law_L_share
set_option maxRecDepth 20000 in
theorem ggL_law_L_mean : GoodIn wsL_law wsL_mean := goodIn_ca (goodIn_r _ [752, 735, 10, 753, 754, 755, 2, 756, 740, 741, 36, 757, 758, 759, 35, 760, 678, 746, 747, 748, 749, 150, 761, 762, 763, 764, 765, 766, 767, 795, 796, 797, 798, 799, 800, 801, 802, 803] (by decide +kernel) (by decide +kernel)) (goodIn_sub (fun _ h => List.mem_append_right _ h) (by decide +kernel))
set_option maxRecDepth 20000 in
theorem gL_law_L_mean : GoodIn wsL_law (va_wsS RL 188 yL_mean wsL_mean) := goodIn_app (goodIn_of _ (by decide +kernel)) ggL_law_L_mean
theorem dL_law_0 : decode cL_law 0 = .ok (.new 8, 3) := by decide +kernel
theorem dL_law_3 : decode cL_law 3 = .ok (.dup, 1) := by decide +kernel
theorem dL_law_4 : decode cL_law 4 = .ok (.invokespecial 143, 3) := by decide +kernel
theorem dL_law_7 : decode cL_law 7 = .ok (.astore_n 1, 1) := by decide +kernel
theorem dL_law_8 : decode cL_law 8 = .ok (.bipush 6, 2) := by decide +kernel
theorem dL_law_10 : decode cL_law 10 = .ok (.newarray .int, 2) := by decide +kernel
theorem dL_law_12 : decode cL_law 12 = .ok (.astore_n 2, 1) := by decide +kernel
theorem dL_law_13 : decode cL_law 13 = .ok (.iconst 0, 1) := by decide +kernel
theorem dL_law_14 : decode cL_law 14 = .ok (.istore_n 3, 1) := by decide +kernel
theorem dL_law_15 : decode cL_law 15 = .ok (.aload_n 0, 1) := by decide +kernel
theorem dL_law_16 : decode cL_law 16 = .ok (.iconst 0, 1) := by decide +kernel
theorem dL_law_17 : decode cL_law 17 = .ok (.invokestatic 144, 3) := by decide +kernel
theorem dL_law_20 : decode cL_law 20 = .ok (.bipush 50, 2) := by decide +kernel
theorem dL_law_22 : decode cL_law 22 = .ok (.invokestatic 148, 3) := by decide +kernel
theorem dL_law_25 : decode cL_law 25 = .ok (.istore 4, 2) := by decide +kernel
theorem dL_law_27 : decode cL_law 27 = .ok (.iconst 0, 1) := by decide +kernel
theorem dL_law_28 : decode cL_law 28 = .ok (.istore 5, 2) := by decide +kernel
theorem dL_law_30 : decode cL_law 30 = .ok (.iload 5, 2) := by decide +kernel
theorem dL_law_32 : decode cL_law 32 = .ok (.iload 4, 2) := by decide +kernel
theorem dL_law_34 : decode cL_law 34 = .ok (.if_icmp .ge 692, 3) := by decide +kernel
theorem dL_law_37 : decode cL_law 37 = .ok (.aload_n 0, 1) := by decide +kernel
theorem dL_law_38 : decode cL_law 38 = .ok (.iconst 1, 1) := by decide +kernel
theorem dL_law_39 : decode cL_law 39 = .ok (.iload 5, 2) := by decide +kernel
theorem dL_law_41 : decode cL_law 41 = .ok (.iadd, 1) := by decide +kernel
theorem dL_law_42 : decode cL_law 42 = .ok (.invokestatic 144, 3) := by decide +kernel
theorem dL_law_45 : decode cL_law 45 = .ok (.ldc 151, 2) := by decide +kernel
theorem dL_law_47 : decode cL_law 47 = .ok (.invokestatic 148, 3) := by decide +kernel
theorem dL_law_50 : decode cL_law 50 = .ok (.istore 6, 2) := by decide +kernel
theorem dL_law_52 : decode cL_law 52 = .ok (.iload 6, 2) := by decide +kernel
theorem dL_law_54 : decode cL_law 54 = .ok (.bipush 16, 2) := by decide +kernel
theorem dL_law_56 : decode cL_law 56 = .ok (.idiv, 1) := by decide +kernel
theorem dL_law_57 : decode cL_law 57 = .ok (.istore 7, 2) := by decide +kernel
theorem dL_law_59 : decode cL_law 59 = .ok (.iload 5, 2) := by decide +kernel
theorem dL_law_61 : decode cL_law 61 = .ok (.iconst 4, 1) := by decide +kernel
theorem dL_law_62 : decode cL_law 62 = .ok (.irem, 1) := by decide +kernel
theorem dL_law_63 : decode cL_law 63 = .ok (.ifCond .ne 7, 3) := by decide +kernel
theorem dL_law_66 : decode cL_law 66 = .ok (.iconst 1, 1) := by decide +kernel
theorem dL_law_67 : decode cL_law 67 = .ok (.goto 4, 3) := by decide +kernel
theorem dL_law_70 : decode cL_law 70 = .ok (.iconst 0, 1) := by decide +kernel
theorem dL_law_71 : decode cL_law 71 = .ok (.istore 8, 2) := by decide +kernel
theorem dL_law_73 : decode cL_law 73 = .ok (.iload 8, 2) := by decide +kernel
theorem dL_law_75 : decode cL_law 75 = .ok (.ifCond .eq 11, 3) := by decide +kernel
theorem dL_law_78 : decode cL_law 78 = .ok (.aload_n 1, 1) := by decide +kernel
theorem dL_law_79 : decode cL_law 79 = .ok (.iload_n 3, 1) := by decide +kernel
theorem dL_law_80 : decode cL_law 80 = .ok (.invokestatic 152, 3) := by decide +kernel
theorem dL_law_83 : decode cL_law 83 = .ok (.goto 4, 3) := by decide +kernel
theorem dL_law_86 : decode cL_law 86 = .ok (.lconst 0, 1) := by decide +kernel
theorem dL_law_87 : decode cL_law 87 = .ok (.lstore 9, 2) := by decide +kernel
theorem dL_law_89 : decode cL_law 89 = .ok (.iconst 0, 1) := by decide +kernel
theorem dL_law_90 : decode cL_law 90 = .ok (.istore 11, 2) := by decide +kernel
theorem dL_law_92 : decode cL_law 92 = .ok (.iload 5, 2) := by decide +kernel
theorem dL_law_94 : decode cL_law 94 = .ok (.iconst 2, 1) := by decide +kernel
theorem dL_law_95 : decode cL_law 95 = .ok (.if_icmp .ge 8, 3) := by decide +kernel
theorem dL_law_98 : decode cL_law 98 = .ok (.bipush 6, 2) := by decide +kernel
theorem dL_law_100 : decode cL_law 100 = .ok (.goto 18, 3) := by decide +kernel
theorem dL_law_103 : decode cL_law 103 = .ok (.iload 5, 2) := by decide +kernel
theorem dL_law_105 : decode cL_law 105 = .ok (.iconst 5, 1) := by decide +kernel
theorem dL_law_106 : decode cL_law 106 = .ok (.if_icmp .ge 7, 3) := by decide +kernel
theorem dL_law_109 : decode cL_law 109 = .ok (.iconst 0, 1) := by decide +kernel
theorem dL_law_110 : decode cL_law 110 = .ok (.goto 8, 3) := by decide +kernel
theorem dL_law_113 : decode cL_law 113 = .ok (.iload 6, 2) := by decide +kernel
theorem dL_law_115 : decode cL_law 115 = .ok (.bipush 16, 2) := by decide +kernel
theorem dL_law_117 : decode cL_law 117 = .ok (.irem, 1) := by decide +kernel
theorem dL_law_118 : decode cL_law 118 = .ok (.istore 12, 2) := by decide +kernel
theorem dL_law_120 : decode cL_law 120 = .ok (.iload 12, 2) := by decide +kernel
theorem dL_law_122 : decode cL_law 122 = .ok (.iconst 5, 1) := by decide +kernel
theorem dL_law_123 : decode cL_law 123 = .ok (.if_icmp .ge 87, 3) := by decide +kernel
theorem dL_law_126 : decode cL_law 126 = .ok (.aload_n 1, 1) := by decide +kernel
theorem dL_law_127 : decode cL_law 127 = .ok (.invokevirtual 86, 3) := by decide +kernel
theorem dL_law_130 : decode cL_law 130 = .ok (.iconst 5, 1) := by decide +kernel
theorem dL_law_131 : decode cL_law 131 = .ok (.if_icmp .lt 20, 3) := by decide +kernel
theorem dL_law_134 : decode cL_law 134 = .ok (.iload 7, 2) := by decide +kernel
theorem dL_law_136 : decode cL_law 136 = .ok (.bipush 7, 2) := by decide +kernel
theorem dL_law_138 : decode cL_law 138 = .ok (.irem, 1) := by decide +kernel
theorem dL_law_139 : decode cL_law 139 = .ok (.ifCond .ne 33, 3) := by decide +kernel
theorem dL_law_142 : decode cL_law 142 = .ok (.aload_n 1, 1) := by decide +kernel
theorem dL_law_143 : decode cL_law 143 = .ok (.invokevirtual 86, 3) := by decide +kernel
theorem dL_law_146 : decode cL_law 146 = .ok (.bipush 6, 2) := by decide +kernel
theorem dL_law_148 : decode cL_law 148 = .ok (.if_icmp .ge 24, 3) := by decide +kernel
theorem dL_law_151 : decode cL_law 151 = .ok (.aload_n 1, 1) := by decide +kernel
theorem dL_law_152 : decode cL_law 152 = .ok (.iload 7, 2) := by decide +kernel
theorem dL_law_154 : decode cL_law 154 = .ok (.iconst 3, 1) := by decide +kernel
theorem dL_law_155 : decode cL_law 155 = .ok (.irem, 1) := by decide +kernel
theorem dL_law_156 : decode cL_law 156 = .ok (.iconst 1, 1) := by decide +kernel
theorem dL_law_157 : decode cL_law 157 = .ok (.iload 7, 2) := by decide +kernel
theorem dL_law_159 : decode cL_law 159 = .ok (.iconst 3, 1) := by decide +kernel
theorem dL_law_160 : decode cL_law 160 = .ok (.idiv, 1) := by decide +kernel
theorem dL_law_161 : decode cL_law 161 = .ok (.sipush 400, 3) := by decide +kernel
theorem dL_law_164 : decode cL_law 164 = .ok (.irem, 1) := by decide +kernel
theorem dL_law_165 : decode cL_law 165 = .ok (.iadd, 1) := by decide +kernel
theorem dL_law_166 : decode cL_law 166 = .ok (.invokestatic 155, 3) := by decide +kernel
theorem dL_law_169 : decode cL_law 169 = .ok (.goto 4, 3) := by decide +kernel
theorem dL_law_172 : decode cL_law 172 = .ok (.iconst 0, 1) := by decide +kernel
theorem dL_law_173 : decode cL_law 173 = .ok (.istore 11, 2) := by decide +kernel
theorem dL_law_175 : decode cL_law 175 = .ok (.iload_n 3, 1) := by decide +kernel
theorem dL_law_176 : decode cL_law 176 = .ok (.iload 11, 2) := by decide +kernel
theorem dL_law_178 : decode cL_law 178 = .ok (.ifCond .lt 26, 3) := by decide +kernel
theorem dL_law_181 : decode cL_law 181 = .ok (.aload_n 1, 1) := by decide +kernel
theorem dL_law_182 : decode cL_law 182 = .ok (.invokevirtual 86, 3) := by decide +kernel
theorem dL_law_185 : decode cL_law 185 = .ok (.ifCond .le 19, 3) := by decide +kernel
theorem dL_law_188 : decode cL_law 188 = .ok (.aload_n 1, 1) := by decide +kernel
theorem dL_law_189 : decode cL_law 189 = .ok (.iload_n 3, 1) := by decide +kernel
theorem dL_law_190 : decode cL_law 190 = .ok (.iconst 1, 1) := by decide +kernel
theorem dL_law_191 : decode cL_law 191 = .ok (.invokestatic 123, 3) := by decide +kernel
theorem dL_law_194 : decode cL_law 194 = .ok (.sipush (-1001), 3) := by decide +kernel
theorem dL_law_197 : decode cL_law 197 = .ok (.if_icmp .eq 7, 3) := by decide +kernel
theorem dL_law_200 : decode cL_law 200 = .ok (.iconst 1, 1) := by decide +kernel
theorem dL_law_201 : decode cL_law 201 = .ok (.goto 4, 3) := by decide +kernel
theorem dL_law_204 : decode cL_law 204 = .ok (.iconst 0, 1) := by decide +kernel
theorem dL_law_205 : decode cL_law 205 = .ok (.iadd, 1) := by decide +kernel
theorem dL_law_206 : decode cL_law 206 = .ok (.istore_n 3, 1) := by decide +kernel
theorem dL_law_207 : decode cL_law 207 = .ok (.goto 487, 3) := by decide +kernel
theorem dL_law_210 : decode cL_law 210 = .ok (.iload 12, 2) := by decide +kernel
theorem dL_law_212 : decode cL_law 212 = .ok (.bipush 6, 2) := by decide +kernel
theorem dL_law_214 : decode cL_law 214 = .ok (.if_icmp .ge 20, 3) := by decide +kernel
theorem dL_law_217 : decode cL_law 217 = .ok (.aload_n 1, 1) := by decide +kernel
theorem dL_law_218 : decode cL_law 218 = .ok (.iload 7, 2) := by decide +kernel
theorem dL_law_220 : decode cL_law 220 = .ok (.iconst 1, 1) := by decide +kernel
theorem dL_law_221 : decode cL_law 221 = .ok (.iload_n 3, 1) := by decide +kernel
theorem dL_law_222 : decode cL_law 222 = .ok (.invokestatic 138, 3) := by decide +kernel
theorem dL_law_225 : decode cL_law 225 = .ok (.irem, 1) := by decide +kernel
theorem dL_law_226 : decode cL_law 226 = .ok (.invokestatic 158, 3) := by decide +kernel
theorem dL_law_229 : decode cL_law 229 = .ok (.istore 11, 2) := by decide +kernel
theorem dL_law_231 : decode cL_law 231 = .ok (.goto 463, 3) := by decide +kernel
theorem dL_law_234 : decode cL_law 234 = .ok (.iload 12, 2) := by decide +kernel
theorem dL_law_236 : decode cL_law 236 = .ok (.bipush 9, 2) := by decide +kernel
theorem dL_law_238 : decode cL_law 238 = .ok (.if_icmp .ge 236, 3) := by decide +kernel
theorem dL_law_241 : decode cL_law 241 = .ok (.ldc 161, 2) := by decide +kernel
theorem dL_law_243 : decode cL_law 243 = .ok (.iload 7, 2) := by decide +kernel
theorem dL_law_245 : decode cL_law 245 = .ok (.iconst 4, 1) := by decide +kernel
theorem dL_law_246 : decode cL_law 246 = .ok (.irem, 1) := by decide +kernel
theorem dL_law_247 : decode cL_law 247 = .ok (.invokevirtual 163, 3) := by decide +kernel
theorem dL_law_250 : decode cL_law 250 = .ok (.istore 13, 2) := by decide +kernel
theorem dL_law_252 : decode cL_law 252 = .ok (.iload 13, 2) := by decide +kernel
theorem dL_law_254 : decode cL_law 254 = .ok (.bipush 112, 2) := by decide +kernel
theorem dL_law_256 : decode cL_law 256 = .ok (.if_icmp .ne 31, 3) := by decide +kernel
theorem dL_law_259 : decode cL_law 259 = .ok (.iconst 2, 1) := by decide +kernel
theorem dL_law_260 : decode cL_law 260 = .ok (.newarray .int, 2) := by decide +kernel
theorem dL_law_262 : decode cL_law 262 = .ok (.dup, 1) := by decide +kernel
theorem dL_law_263 : decode cL_law 263 = .ok (.iconst 0, 1) := by decide +kernel
theorem dL_law_264 : decode cL_law 264 = .ok (.iload 7, 2) := by decide +kernel
theorem dL_law_266 : decode cL_law 266 = .ok (.iconst 4, 1) := by decide +kernel
theorem dL_law_267 : decode cL_law 267 = .ok (.idiv, 1) := by decide +kernel
theorem dL_law_268 : decode cL_law 268 = .ok (.iconst 3, 1) := by decide +kernel
theorem dL_law_269 : decode cL_law 269 = .ok (.irem, 1) := by decide +kernel
theorem dL_law_270 : decode cL_law 270 = .ok (.iastore, 1) := by decide +kernel
theorem dL_law_271 : decode cL_law 271 = .ok (.dup, 1) := by decide +kernel
theorem dL_law_272 : decode cL_law 272 = .ok (.iconst 1, 1) := by decide +kernel
theorem dL_law_273 : decode cL_law 273 = .ok (.iconst 1, 1) := by decide +kernel
theorem dL_law_274 : decode cL_law 274 = .ok (.iload 7, 2) := by decide +kernel
theorem dL_law_276 : decode cL_law 276 = .ok (.bipush 12, 2) := by decide +kernel
theorem dL_law_278 : decode cL_law 278 = .ok (.idiv, 1) := by decide +kernel
theorem dL_law_279 : decode cL_law 279 = .ok (.bipush 90, 2) := by decide +kernel
theorem dL_law_281 : decode cL_law 281 = .ok (.irem, 1) := by decide +kernel
theorem dL_law_282 : decode cL_law 282 = .ok (.iadd, 1) := by decide +kernel
theorem dL_law_283 : decode cL_law 283 = .ok (.iastore, 1) := by decide +kernel
theorem dL_law_284 : decode cL_law 284 = .ok (.goto 126, 3) := by decide +kernel
theorem dL_law_287 : decode cL_law 287 = .ok (.iload 13, 2) := by decide +kernel
theorem dL_law_289 : decode cL_law 289 = .ok (.bipush 102, 2) := by decide +kernel
theorem dL_law_291 : decode cL_law 291 = .ok (.if_icmp .ne 30, 3) := by decide +kernel
theorem dL_law_294 : decode cL_law 294 = .ok (.iconst 2, 1) := by decide +kernel
theorem dL_law_295 : decode cL_law 295 = .ok (.newarray .int, 2) := by decide +kernel
theorem dL_law_297 : decode cL_law 297 = .ok (.dup, 1) := by decide +kernel
theorem dL_law_298 : decode cL_law 298 = .ok (.iconst 0, 1) := by decide +kernel
theorem dL_law_299 : decode cL_law 299 = .ok (.iload 7, 2) := by decide +kernel
theorem dL_law_301 : decode cL_law 301 = .ok (.iconst 4, 1) := by decide +kernel
theorem dL_law_302 : decode cL_law 302 = .ok (.idiv, 1) := by decide +kernel
theorem dL_law_303 : decode cL_law 303 = .ok (.iconst 3, 1) := by decide +kernel
theorem dL_law_304 : decode cL_law 304 = .ok (.irem, 1) := by decide +kernel
theorem dL_law_305 : decode cL_law 305 = .ok (.iastore, 1) := by decide +kernel
theorem dL_law_306 : decode cL_law 306 = .ok (.dup, 1) := by decide +kernel
theorem dL_law_307 : decode cL_law 307 = .ok (.iconst 1, 1) := by decide +kernel
theorem dL_law_308 : decode cL_law 308 = .ok (.iconst 2, 1) := by decide +kernel
theorem dL_law_309 : decode cL_law 309 = .ok (.iload 7, 2) := by decide +kernel
theorem dL_law_311 : decode cL_law 311 = .ok (.bipush 12, 2) := by decide +kernel
theorem dL_law_313 : decode cL_law 313 = .ok (.idiv, 1) := by decide +kernel
theorem dL_law_314 : decode cL_law 314 = .ok (.iconst 3, 1) := by decide +kernel
theorem dL_law_315 : decode cL_law 315 = .ok (.irem, 1) := by decide +kernel
theorem dL_law_316 : decode cL_law 316 = .ok (.iadd, 1) := by decide +kernel
theorem dL_law_317 : decode cL_law 317 = .ok (.iastore, 1) := by decide +kernel
theorem dL_law_318 : decode cL_law 318 = .ok (.goto 92, 3) := by decide +kernel
theorem dL_law_321 : decode cL_law 321 = .ok (.iload 13, 2) := by decide +kernel
theorem dL_law_323 : decode cL_law 323 = .ok (.bipush 98, 2) := by decide +kernel
theorem dL_law_325 : decode cL_law 325 = .ok (.if_icmp .ne 55, 3) := by decide +kernel
theorem dL_law_328 : decode cL_law 328 = .ok (.iconst 4, 1) := by decide +kernel
theorem dL_law_329 : decode cL_law 329 = .ok (.newarray .int, 2) := by decide +kernel
theorem dL_law_331 : decode cL_law 331 = .ok (.dup, 1) := by decide +kernel
theorem dL_law_332 : decode cL_law 332 = .ok (.iconst 0, 1) := by decide +kernel
theorem dL_law_333 : decode cL_law 333 = .ok (.iload 7, 2) := by decide +kernel
theorem dL_law_335 : decode cL_law 335 = .ok (.iconst 4, 1) := by decide +kernel
theorem dL_law_336 : decode cL_law 336 = .ok (.idiv, 1) := by decide +kernel
theorem dL_law_337 : decode cL_law 337 = .ok (.iconst 3, 1) := by decide +kernel
theorem dL_law_338 : decode cL_law 338 = .ok (.irem, 1) := by decide +kernel
theorem dL_law_339 : decode cL_law 339 = .ok (.iastore, 1) := by decide +kernel
theorem dL_law_340 : decode cL_law 340 = .ok (.dup, 1) := by decide +kernel
theorem dL_law_341 : decode cL_law 341 = .ok (.iconst 1, 1) := by decide +kernel
theorem dL_law_342 : decode cL_law 342 = .ok (.iload 7, 2) := by decide +kernel
theorem dL_law_344 : decode cL_law 344 = .ok (.bipush 12, 2) := by decide +kernel
theorem dL_law_346 : decode cL_law 346 = .ok (.idiv, 1) := by decide +kernel
theorem dL_law_347 : decode cL_law 347 = .ok (.iconst 3, 1) := by decide +kernel
theorem dL_law_348 : decode cL_law 348 = .ok (.irem, 1) := by decide +kernel
theorem dL_law_349 : decode cL_law 349 = .ok (.iastore, 1) := by decide +kernel
theorem dL_law_350 : decode cL_law 350 = .ok (.dup, 1) := by decide +kernel
theorem dL_law_351 : decode cL_law 351 = .ok (.iconst 2, 1) := by decide +kernel
theorem dL_law_352 : decode cL_law 352 = .ok (.iload 7, 2) := by decide +kernel
theorem dL_law_354 : decode cL_law 354 = .ok (.bipush 36, 2) := by decide +kernel
theorem dL_law_356 : decode cL_law 356 = .ok (.idiv, 1) := by decide +kernel
theorem dL_law_357 : decode cL_law 357 = .ok (.iconst 4, 1) := by decide +kernel
theorem dL_law_358 : decode cL_law 358 = .ok (.irem, 1) := by decide +kernel
theorem dL_law_359 : decode cL_law 359 = .ok (.iconst 1, 1) := by decide +kernel
theorem dL_law_360 : decode cL_law 360 = .ok (.isub, 1) := by decide +kernel
theorem dL_law_361 : decode cL_law 361 = .ok (.iastore, 1) := by decide +kernel
theorem dL_law_362 : decode cL_law 362 = .ok (.dup, 1) := by decide +kernel
theorem dL_law_363 : decode cL_law 363 = .ok (.iconst 3, 1) := by decide +kernel
theorem dL_law_364 : decode cL_law 364 = .ok (.iconst 1, 1) := by decide +kernel
theorem dL_law_365 : decode cL_law 365 = .ok (.iload 7, 2) := by decide +kernel
theorem dL_law_367 : decode cL_law 367 = .ok (.sipush 144, 3) := by decide +kernel
theorem dL_law_370 : decode cL_law 370 = .ok (.idiv, 1) := by decide +kernel
theorem dL_law_371 : decode cL_law 371 = .ok (.sipush 300, 3) := by decide +kernel
theorem dL_law_374 : decode cL_law 374 = .ok (.irem, 1) := by decide +kernel
theorem dL_law_375 : decode cL_law 375 = .ok (.iadd, 1) := by decide +kernel
theorem dL_law_376 : decode cL_law 376 = .ok (.iastore, 1) := by decide +kernel
theorem dL_law_377 : decode cL_law 377 = .ok (.goto 33, 3) := by decide +kernel
theorem dL_law_380 : decode cL_law 380 = .ok (.iconst 2, 1) := by decide +kernel
theorem dL_law_381 : decode cL_law 381 = .ok (.newarray .int, 2) := by decide +kernel
theorem dL_law_383 : decode cL_law 383 = .ok (.dup, 1) := by decide +kernel
theorem dL_law_384 : decode cL_law 384 = .ok (.iconst 0, 1) := by decide +kernel
theorem dL_law_385 : decode cL_law 385 = .ok (.iconst 1, 1) := by decide +kernel
theorem dL_law_386 : decode cL_law 386 = .ok (.iload 7, 2) := by decide +kernel
theorem dL_law_388 : decode cL_law 388 = .ok (.iconst 4, 1) := by decide +kernel
theorem dL_law_389 : decode cL_law 389 = .ok (.idiv, 1) := by decide +kernel
theorem dL_law_390 : decode cL_law 390 = .ok (.sipush 600, 3) := by decide +kernel
theorem dL_law_393 : decode cL_law 393 = .ok (.irem, 1) := by decide +kernel
theorem dL_law_394 : decode cL_law 394 = .ok (.iadd, 1) := by decide +kernel
theorem dL_law_395 : decode cL_law 395 = .ok (.iastore, 1) := by decide +kernel
theorem dL_law_396 : decode cL_law 396 = .ok (.dup, 1) := by decide +kernel
theorem dL_law_397 : decode cL_law 397 = .ok (.iconst 1, 1) := by decide +kernel
theorem dL_law_398 : decode cL_law 398 = .ok (.iconst 1, 1) := by decide +kernel
theorem dL_law_399 : decode cL_law 399 = .ok (.iload 7, 2) := by decide +kernel
theorem dL_law_401 : decode cL_law 401 = .ok (.sipush 2400, 3) := by decide +kernel
theorem dL_law_404 : decode cL_law 404 = .ok (.idiv, 1) := by decide +kernel
theorem dL_law_405 : decode cL_law 405 = .ok (.bipush 100, 2) := by decide +kernel
theorem dL_law_407 : decode cL_law 407 = .ok (.irem, 1) := by decide +kernel
theorem dL_law_408 : decode cL_law 408 = .ok (.iadd, 1) := by decide +kernel
theorem dL_law_409 : decode cL_law 409 = .ok (.iastore, 1) := by decide +kernel
theorem dL_law_410 : decode cL_law 410 = .ok (.astore 14, 2) := by decide +kernel
theorem dL_law_412 : decode cL_law 412 = .ok (.iload 7, 2) := by decide +kernel
theorem dL_law_414 : decode cL_law 414 = .ok (.bipush 17, 2) := by decide +kernel
theorem dL_law_416 : decode cL_law 416 = .ok (.idiv, 1) := by decide +kernel
theorem dL_law_417 : decode cL_law 417 = .ok (.iconst 5, 1) := by decide +kernel
theorem dL_law_418 : decode cL_law 418 = .ok (.irem, 1) := by decide +kernel
theorem dL_law_419 : decode cL_law 419 = .ok (.iconst 1, 1) := by decide +kernel
theorem dL_law_420 : decode cL_law 420 = .ok (.isub, 1) := by decide +kernel
theorem dL_law_421 : decode cL_law 421 = .ok (.istore 15, 2) := by decide +kernel
theorem dL_law_423 : decode cL_law 423 = .ok (.aload_n 1, 1) := by decide +kernel
theorem dL_law_424 : decode cL_law 424 = .ok (.invokevirtual 112, 3) := by decide +kernel
theorem dL_law_427 : decode cL_law 427 = .ok (.istore 16, 2) := by decide +kernel
theorem dL_law_429 : decode cL_law 429 = .ok (.aload_n 1, 1) := by decide +kernel
theorem dL_law_430 : decode cL_law 430 = .ok (.iload 13, 2) := by decide +kernel
theorem dL_law_432 : decode cL_law 432 = .ok (.aload 14, 2) := by decide +kernel
theorem dL_law_434 : decode cL_law 434 = .ok (.iconst 1, 1) := by decide +kernel
theorem dL_law_435 : decode cL_law 435 = .ok (.iload 7, 2) := by decide +kernel
theorem dL_law_437 : decode cL_law 437 = .ok (.iconst 5, 1) := by decide +kernel
theorem dL_law_438 : decode cL_law 438 = .ok (.idiv, 1) := by decide +kernel
theorem dL_law_439 : decode cL_law 439 = .ok (.iconst 4, 1) := by decide +kernel
theorem dL_law_440 : decode cL_law 440 = .ok (.irem, 1) := by decide +kernel
theorem dL_law_441 : decode cL_law 441 = .ok (.iadd, 1) := by decide +kernel
theorem dL_law_442 : decode cL_law 442 = .ok (.iload 15, 2) := by decide +kernel
theorem dL_law_444 : decode cL_law 444 = .ok (.invokestatic 168, 3) := by decide +kernel
theorem dL_law_447 : decode cL_law 447 = .ok (.istore 11, 2) := by decide +kernel
theorem dL_law_449 : decode cL_law 449 = .ok (.iload 11, 2) := by decide +kernel
theorem dL_law_451 : decode cL_law 451 = .ok (.ifCond .lt 20, 3) := by decide +kernel
theorem dL_law_454 : decode cL_law 454 = .ok (.aload_n 2, 1) := by decide +kernel
theorem dL_law_455 : decode cL_law 455 = .ok (.iload 11, 2) := by decide +kernel
theorem dL_law_457 : decode cL_law 457 = .ok (.iload 15, 2) := by decide +kernel
theorem dL_law_459 : decode cL_law 459 = .ok (.iastore, 1) := by decide +kernel
theorem dL_law_460 : decode cL_law 460 = .ok (.aload_n 1, 1) := by decide +kernel
theorem dL_law_461 : decode cL_law 461 = .ok (.invokevirtual 112, 3) := by decide +kernel
theorem dL_law_464 : decode cL_law 464 = .ok (.iload 16, 2) := by decide +kernel
theorem dL_law_466 : decode cL_law 466 = .ok (.if_icmp .ge 5, 3) := by decide +kernel
theorem dL_law_469 : decode cL_law 469 = .ok (.iconst 0, 1) := by decide +kernel
theorem dL_law_470 : decode cL_law 470 = .ok (.ireturn, 1) := by decide +kernel
theorem dL_law_471 : decode cL_law 471 = .ok (.goto 223, 3) := by decide +kernel
theorem dL_law_474 : decode cL_law 474 = .ok (.iload 12, 2) := by decide +kernel
theorem dL_law_476 : decode cL_law 476 = .ok (.bipush 10, 2) := by decide +kernel
theorem dL_law_478 : decode cL_law 478 = .ok (.if_icmp .ge 16, 3) := by decide +kernel
theorem dL_law_481 : decode cL_law 481 = .ok (.aload_n 1, 1) := by decide +kernel
theorem dL_law_482 : decode cL_law 482 = .ok (.iload 7, 2) := by decide +kernel
theorem dL_law_484 : decode cL_law 484 = .ok (.iconst 4, 1) := by decide +kernel
theorem dL_law_485 : decode cL_law 485 = .ok (.irem, 1) := by decide +kernel
theorem dL_law_486 : decode cL_law 486 = .ok (.invokestatic 172, 3) := by decide +kernel
theorem dL_law_489 : decode cL_law 489 = .ok (.istore 11, 2) := by decide +kernel
theorem dL_law_491 : decode cL_law 491 = .ok (.goto 203, 3) := by decide +kernel
theorem dL_law_494 : decode cL_law 494 = .ok (.iload 12, 2) := by decide +kernel
theorem dL_law_496 : decode cL_law 496 = .ok (.bipush 12, 2) := by decide +kernel
theorem dL_law_498 : decode cL_law 498 = .ok (.if_icmp .ge 118, 3) := by decide +kernel
theorem dL_law_501 : decode cL_law 501 = .ok (.aload_n 1, 1) := by decide +kernel
theorem dL_law_502 : decode cL_law 502 = .ok (.invokevirtual 135, 3) := by decide +kernel
theorem dL_law_505 : decode cL_law 505 = .ok (.istore 13, 2) := by decide +kernel
theorem dL_law_507 : decode cL_law 507 = .ok (.iconst 0, 1) := by decide +kernel
theorem dL_law_508 : decode cL_law 508 = .ok (.istore 14, 2) := by decide +kernel
theorem dL_law_510 : decode cL_law 510 = .ok (.iconst 0, 1) := by decide +kernel
theorem dL_law_511 : decode cL_law 511 = .ok (.istore 15, 2) := by decide +kernel
theorem dL_law_513 : decode cL_law 513 = .ok (.iload 15, 2) := by decide +kernel
theorem dL_law_515 : decode cL_law 515 = .ok (.aload_n 1, 1) := by decide +kernel
theorem dL_law_516 : decode cL_law 516 = .ok (.invokevirtual 96, 3) := by decide +kernel
theorem dL_law_519 : decode cL_law 519 = .ok (.if_icmp .ge 22, 3) := by decide +kernel
theorem dL_law_522 : decode cL_law 522 = .ok (.iload 14, 2) := by decide +kernel
theorem dL_law_524 : decode cL_law 524 = .ok (.aload_n 1, 1) := by decide +kernel
theorem dL_law_525 : decode cL_law 525 = .ok (.iload 15, 2) := by decide +kernel
theorem dL_law_527 : decode cL_law 527 = .ok (.bipush 117, 2) := by decide +kernel
theorem dL_law_529 : decode cL_law 529 = .ok (.invokestatic 115, 3) := by decide +kernel
theorem dL_law_532 : decode cL_law 532 = .ok (.iadd, 1) := by decide +kernel
theorem dL_law_533 : decode cL_law 533 = .ok (.istore 14, 2) := by decide +kernel
theorem dL_law_535 : decode cL_law 535 = .ok (.iinc 15 1, 3) := by decide +kernel
theorem dL_law_538 : decode cL_law 538 = .ok (.goto (-25), 3) := by decide +kernel
theorem dL_law_541 : decode cL_law 541 = .ok (.aload_n 1, 1) := by decide +kernel
theorem dL_law_542 : decode cL_law 542 = .ok (.invokevirtual 107, 3) := by decide +kernel
theorem dL_law_545 : decode cL_law 545 = .ok (.istore 15, 2) := by decide +kernel
theorem dL_law_547 : decode cL_law 547 = .ok (.aload_n 1, 1) := by decide +kernel
theorem dL_law_548 : decode cL_law 548 = .ok (.invokevirtual 101, 3) := by decide +kernel
theorem dL_law_551 : decode cL_law 551 = .ok (.lstore 16, 2) := by decide +kernel
theorem dL_law_553 : decode cL_law 553 = .ok (.aload_n 1, 1) := by decide +kernel
theorem dL_law_554 : decode cL_law 554 = .ok (.invokestatic 175, 3) := by decide +kernel
theorem dL_law_557 : decode cL_law 557 = .ok (.istore 11, 2) := by decide +kernel
theorem dL_law_559 : decode cL_law 559 = .ok (.iload 11, 2) := by decide +kernel
theorem dL_law_561 : decode cL_law 561 = .ok (.ifCond .lt 52, 3) := by decide +kernel
theorem dL_law_564 : decode cL_law 564 = .ok (.iload 11, 2) := by decide +kernel
theorem dL_law_566 : decode cL_law 566 = .ok (.iload 13, 2) := by decide +kernel
theorem dL_law_568 : decode cL_law 568 = .ok (.if_icmp .ne 43, 3) := by decide +kernel
theorem dL_law_571 : decode cL_law 571 = .ok (.aload_n 1, 1) := by decide +kernel
theorem dL_law_572 : decode cL_law 572 = .ok (.invokevirtual 107, 3) := by decide +kernel
theorem dL_law_575 : decode cL_law 575 = .ok (.iload 15, 2) := by decide +kernel
theorem dL_law_577 : decode cL_law 577 = .ok (.iload 14, 2) := by decide +kernel
theorem dL_law_579 : decode cL_law 579 = .ok (.iadd, 1) := by decide +kernel
theorem dL_law_580 : decode cL_law 580 = .ok (.if_icmp .ne 31, 3) := by decide +kernel
theorem dL_law_583 : decode cL_law 583 = .ok (.aload_n 1, 1) := by decide +kernel
theorem dL_law_584 : decode cL_law 584 = .ok (.invokevirtual 101, 3) := by decide +kernel
theorem dL_law_587 : decode cL_law 587 = .ok (.lload 16, 2) := by decide +kernel
theorem dL_law_589 : decode cL_law 589 = .ok (.iload 13, 2) := by decide +kernel
theorem dL_law_591 : decode cL_law 591 = .ok (.i2l, 1) := by decide +kernel
theorem dL_law_592 : decode cL_law 592 = .ok (.ladd, 1) := by decide +kernel
theorem dL_law_593 : decode cL_law 593 = .ok (.lcmp, 1) := by decide +kernel
theorem dL_law_594 : decode cL_law 594 = .ok (.ifCond .ne 17, 3) := by decide +kernel
theorem dL_law_597 : decode cL_law 597 = .ok (.aload_n 1, 1) := by decide +kernel
theorem dL_law_598 : decode cL_law 598 = .ok (.invokevirtual 86, 3) := by decide +kernel
theorem dL_law_601 : decode cL_law 601 = .ok (.ifCond .ne 10, 3) := by decide +kernel
theorem dL_law_604 : decode cL_law 604 = .ok (.aload_n 1, 1) := by decide +kernel
theorem dL_law_605 : decode cL_law 605 = .ok (.invokevirtual 112, 3) := by decide +kernel
theorem dL_law_608 : decode cL_law 608 = .ok (.ifCond .eq 5, 3) := by decide +kernel
