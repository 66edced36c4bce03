abbrev cL_law : ByteArray := code
theorem dL_law_23 : decode cL_law 23 = .ok (.iload 4, 2) := by decide +kernel
theorem dL_law_25 : decode cL_law 25 = .ok (.aload_n 0, 1) := by decide +kernel
theorem dL_law_26 : decode cL_law 26 = .ok (.arraylength, 1) := by decide +kernel
theorem dL_law_27 : decode cL_law 27 = .ok (.iconst 3, 1) := by decide +kernel
theorem dL_law_28 : decode cL_law 28 = .ok (.isub, 1) := by decide +kernel
theorem dL_law_29 : decode cL_law 29 = .ok (.if_icmp .gt 1546, 3) := by decide +kernel
theorem dL_law_1569 : decode cL_law 1569 = .ok (.iinc 4 3, 3) := by decide +kernel
theorem dL_law_1572 : decode cL_law 1572 = .ok (.goto (-1549), 3) := by decide +kernel
theorem dL_law_1575 : decode cL_law 1575 = .ok (.iconst 1, 1) := by decide +kernel
theorem dL_law_1576 : decode cL_law 1576 = .ok (.ireturn, 1) := by decide +kernel
set_option maxRecDepth 20000 in
theorem gz_Se : GoodIn z_law z_Se := goodIn_r _ [5, 6, 7, 8, 9, 10, 11, 12, 13, 14, 15, 16, 17, 18, 19, 20, 21, 22, 23, 24, 25, 26, 27, 28, 29, 30, 31, 32, 33, 34, 35, 36, 37, 38, 39, 40, 41, 42, 43, 44, 45, 46, 47, 48, 49, 50, 51, 52, 53, 54, 55, 56, 57, 58, 59, 60, 61, 62, 63, 64, 65, 66, 67, 68, 69, 70, 71, 72, 73, 74, 75, 76, 77, 78, 79, 80, 81, 82, 83, 84, 85, 86, 87, 88, 89, 90, 91, 92, 93, 94, 95, 96, 97, 98, 99, 100, 101, 102, 103, 104, 105, 106, 107, 108, 564, 565, 566, 567, 568, 569, 570, 571, 553, 554, 555, 556, 557, 558, 559, 560, 561, 562, 563, 572, 573, 574, 575, 576, 577, 578, 579, 580, 581, 582, 583, 584, 585, 586, 587, 588, 589, 590, 591, 592, 593, 594, 595, 596, 597, 598, 599, 600, 601, 602, 603, 604, 605, 606, 607, 608, 609, 610, 611, 612, 613, 614, 615, 616, 617, 618, 619, 620, 621] (by decide +kernel) (by decide +kernel)
theorem g_law_101_Se : GoodIn z_law z_Se := gz_Se
set_option maxRecDepth 20000 in
theorem gz_Mi : GoodIn z_law z_Mi := goodIn_r _ [114, 115, 7, 8, 116, 117, 118, 119, 120, 121, 122, 123, 124, 125, 126, 127, 128, 129, 130, 131, 132, 133, 134, 135, 136, 137, 138, 139, 140, 141, 142, 646, 647, 648, 622, 623, 624, 625, 626, 627, 628, 629, 630, 631, 632, 633, 634, 635, 636, 637, 638, 639, 640, 641, 642, 643, 644, 645] (by decide +kernel) (by decide +kernel)
theorem g_law_104_Mi : GoodIn z_law z_Mi := gz_Mi
set_option maxRecDepth 20000 in
theorem gz_L_number : GoodIn z_law z_L_number := goodIn_r _ [147, 148, 149, 150, 2, 151, 152, 153, 154, 155, 156, 25, 157, 158, 159, 11, 160, 161, 162, 163, 164, 165, 166, 167, 168, 169, 17, 18, 19, 21, 22, 23, 24, 553, 554, 555, 556, 557, 558, 559, 560, 561, 562, 563, 564, 565, 566, 567, 568, 569, 570, 571] (by decide +kernel) (by decide +kernel)
set_option maxRecDepth 20000 in
theorem g_law_107_L_number : GoodIn z_law (va_wsS RL 107 yL_number z_L_number) := goodIn_app (goodIn_r _ [144, 145, 146] (by decide +kernel) (by decide +kernel)) gz_L_number
set_option maxRecDepth 20000 in
theorem gz_M_number : GoodIn z_law z_M_number := goodIn_r _ [173, 134, 174, 175, 176, 118, 177, 178, 179, 180, 181, 182, 183, 184, 185, 186, 7, 8, 187, 188, 189, 190, 191, 192, 193, 194, 111, 195, 196, 197, 198, 199, 200, 201, 133, 202, 203, 204, 205, 206, 207, 208, 209, 210, 211, 212, 213, 132, 214, 215, 216, 217, 218, 622, 623, 624, 625, 626, 627, 628, 629, 630, 631, 632, 633, 634, 635, 636, 637, 638, 639, 640, 641, 642, 643, 644, 645, 646, 647, 648, 649, 650, 651, 652, 653] (by decide +kernel) (by decide +kernel)
set_option maxRecDepth 20000 in
theorem g_law_112_M_number : GoodIn z_law (wsV RL 112 RX16 yX16_number z_M_number) := goodIn_app (goodIn_r _ [170, 171, 172, 111] (by decide +kernel) (by decide +kernel)) gz_M_number
set_option maxRecDepth 20000 in
theorem gz_thrown : GoodIn z_law z_thrown := goodIn_r _ [222, 179, 622, 623, 624, 625, 626, 627, 628, 629, 630, 631, 632, 633, 634, 635, 636, 637, 638, 639, 640, 641, 642, 643, 644, 645] (by decide +kernel) (by decide +kernel)
set_option maxRecDepth 20000 in
theorem g_law_113_thrown : GoodIn z_law (wsV RL 113 RX16 yX16_thrown z_thrown) := goodIn_app (goodIn_r _ [219, 220, 221, 111] (by decide +kernel) (by decide +kernel)) gz_thrown
set_option maxRecDepth 20000 in
theorem gz_L_name_neg : GoodIn z_law z_L_name_neg := goodIn_ca (goodIn_r _ [225, 226, 227, 228, 2, 229, 230, 231, 232, 233, 234, 235, 236] (by decide +kernel) (by decide +kernel)) (goodIn_sub (fun _ h => List.mem_cons_of_mem _ (List.mem_append_left _ (List.mem_append_left _ (List.mem_append_right _ (h))))) (by decide +kernel))
set_option maxRecDepth 20000 in
theorem g_law_116_L_name_neg : GoodIn z_law (va_wsS RL 116 yL_name z_L_name_neg) := goodIn_app (goodIn_r _ [223, 224, 146] (by decide +kernel) (by decide +kernel)) gz_L_name_neg
set_option maxRecDepth 20000 in
theorem gz_M_name_neg : GoodIn z_law z_M_name_neg := goodIn_r _ [240, 241, 242, 111, 243, 179, 622, 623, 624, 625, 626, 627, 628, 629, 630, 631, 632, 633, 634, 635, 636, 637, 638, 639, 640, 641, 642, 643, 644, 645] (by decide +kernel) (by decide +kernel)
set_option maxRecDepth 20000 in
theorem g_law_119_M_name_neg : GoodIn z_law (wsV RL 119 RX16 yX16_name z_M_name_neg) := goodIn_app (goodIn_r _ [237, 238, 239, 111] (by decide +kernel) (by decide +kernel)) gz_M_name_neg
set_option maxRecDepth 20000 in
theorem gz_L_name_big : GoodIn z_law z_L_name_big := goodIn_ca (goodIn_r _ [225, 226, 227, 228, 2, 229, 230, 231, 232, 233, 234, 235, 236] (by decide +kernel) (by decide +kernel)) (goodIn_sub (fun _ h => List.mem_cons_of_mem _ (List.mem_append_left _ (List.mem_append_left _ (List.mem_append_right _ (h))))) (by decide +kernel))
set_option maxRecDepth 20000 in
theorem g_law_116_L_name_big : GoodIn z_law (va_wsS RL 116 yL_name z_L_name_big) := goodIn_app (goodIn_r _ [223, 224, 146] (by decide +kernel) (by decide +kernel)) gz_L_name_big
set_option maxRecDepth 20000 in
theorem gz_M_name_big : GoodIn z_law z_M_name_big := goodIn_r _ [240, 241, 242, 111, 243, 179, 622, 623, 624, 625, 626, 627, 628, 629, 630, 631, 632, 633, 634, 635, 636, 637, 638, 639, 640, 641, 642, 643, 644, 645] (by decide +kernel) (by decide +kernel)
set_option maxRecDepth 20000 in
theorem g_law_119_M_name_big : GoodIn z_law (wsV RL 119 RX16 yX16_name z_M_name_big) := goodIn_app (goodIn_r _ [237, 238, 239, 111] (by decide +kernel) (by decide +kernel)) gz_M_name_big
set_option maxRecDepth 20000 in
theorem gz_L_name_ok : GoodIn z_law z_L_name_ok := goodIn_r _ [225, 226, 227, 228, 2, 229, 230, 231, 232, 152, 153, 154, 155, 156, 25, 157, 158, 159, 11, 160, 161, 162, 163, 164, 165, 166, 167, 168, 169, 17, 18, 19, 21, 22, 23, 24, 553, 554, 555, 556, 557, 558, 559, 560, 561, 562, 563, 564, 565, 566, 567, 568, 569, 570, 571] (by decide +kernel) (by decide +kernel)
set_option maxRecDepth 20000 in
theorem g_law_116_L_name_ok : GoodIn z_law (va_wsS RL 116 yL_name z_L_name_ok) := goodIn_app (goodIn_r _ [223, 224, 146] (by decide +kernel) (by decide +kernel)) gz_L_name_ok
set_option maxRecDepth 20000 in
theorem gz_M_name_ok : GoodIn z_law z_M_name_ok := goodIn_r _ [240, 241, 242, 111, 243, 134, 174, 175, 176, 118, 177, 178, 179, 180, 181, 182, 183, 184, 185, 186, 7, 8, 187, 188, 189, 190, 191, 192, 193, 194, 195, 196, 197, 198, 199, 200, 201, 133, 202, 203, 204, 205, 206, 207, 208, 209, 210, 211, 212, 213, 132, 214, 215, 216, 217, 218, 622, 623, 624, 625, 626, 627, 628, 629, 630, 631, 632, 633, 634, 635, 636, 637, 638, 639, 640, 641, 642, 643, 644, 645, 646, 647, 648, 649, 650, 651, 652, 653] (by decide +kernel) (by decide +kernel)
set_option maxRecDepth 20000 in
theorem g_law_119_M_name_ok : GoodIn z_law (wsV RL 119 RX16 yX16_name z_M_name_ok) := goodIn_app (goodIn_r _ [237, 238, 239, 111] (by decide +kernel) (by decide +kernel)) gz_M_name_ok
set_option maxRecDepth 20000 in
theorem gz_L_function_neg : GoodIn z_law z_L_function_neg := goodIn_ca (goodIn_r _ [246, 247, 248, 249, 2, 250, 230, 231, 232, 233, 234, 235, 236] (by decide +kernel) (by decide +kernel)) (goodIn_sub (fun _ h => List.mem_cons_of_mem _ (List.mem_append_left _ (List.mem_append_left _ (List.mem_append_right _ (h))))) (by decide +kernel))
set_option maxRecDepth 20000 in
theorem g_law_120_L_function_neg : GoodIn z_law (va_wsS RL 120 yL_function z_L_function_neg) := goodIn_app (goodIn_r _ [244, 245, 146] (by decide +kernel) (by decide +kernel)) gz_L_function_neg
set_option maxRecDepth 20000 in
theorem gz_M_function_neg : GoodIn z_law z_M_function_neg := goodIn_r _ [254, 241, 242, 111, 243, 179, 622, 623, 624, 625, 626, 627, 628, 629, 630, 631, 632, 633, 634, 635, 636, 637, 638, 639, 640, 641, 642, 643, 644, 645] (by decide +kernel) (by decide +kernel)
set_option maxRecDepth 20000 in
theorem g_law_122_M_function_neg : GoodIn z_law (wsV RL 122 RX16 yX16_function z_M_function_neg) := goodIn_app (goodIn_r _ [251, 252, 253, 111] (by decide +kernel) (by decide +kernel)) gz_M_function_neg
set_option maxRecDepth 20000 in
theorem gz_L_function_big : GoodIn z_law z_L_function_big := goodIn_ca (goodIn_r _ [246, 247, 248, 249, 2, 250, 230, 231, 232, 233, 234, 235, 236] (by decide +kernel) (by decide +kernel)) (goodIn_sub (fun _ h => List.mem_cons_of_mem _ (List.mem_append_left _ (List.mem_append_left _ (List.mem_append_right _ (h))))) (by decide +kernel))
set_option maxRecDepth 20000 in
theorem g_law_120_L_function_big : GoodIn z_law (va_wsS RL 120 yL_function z_L_function_big) := goodIn_app (goodIn_r _ [244, 245, 146] (by decide +kernel) (by decide +kernel)) gz_L_function_big
set_option maxRecDepth 20000 in
theorem gz_M_function_big : GoodIn z_law z_M_function_big := goodIn_r _ [254, 241, 242, 111, 243, 179, 622, 623, 624, 625, 626, 627, 628, 629, 630, 631, 632, 633, 634, 635, 636, 637, 638, 639, 640, 641, 642, 643, 644, 645] (by decide +kernel) (by decide +kernel)
set_option maxRecDepth 20000 in
theorem g_law_122_M_function_big : GoodIn z_law (wsV RL 122 RX16 yX16_function z_M_function_big) := goodIn_app (goodIn_r _ [251, 252, 253, 111] (by decide +kernel) (by decide +kernel)) gz_M_function_big
set_option maxRecDepth 20000 in
theorem gz_L_function_ok : GoodIn z_law z_L_function_ok := goodIn_ca (goodIn_r _ [246, 247, 248, 249, 2, 250, 230, 231, 232, 255, 256, 257, 258, 259, 162, 11, 163, 164, 156, 260, 261, 235, 236, 553, 554, 555, 556, 557, 558, 559, 560, 561, 562, 563] (by decide +kernel) (by decide +kernel)) (goodIn_sub (fun _ h => List.mem_cons_of_mem _ (List.mem_append_left _ (List.mem_append_right _ (h)))) (by decide +kernel))
set_option maxRecDepth 20000 in
theorem g_law_120_L_function_ok : GoodIn z_law (va_wsS RL 120 yL_function z_L_function_ok) := goodIn_app (goodIn_r _ [244, 245, 146] (by decide +kernel) (by decide +kernel)) gz_L_function_ok
set_option maxRecDepth 20000 in
theorem gz_M_function_ok : GoodIn z_law z_M_function_ok := goodIn_r _ [254, 241, 242, 111, 243, 262, 263, 264, 265, 134, 174, 175, 176, 118, 177, 178, 179, 622, 623, 624, 625, 626, 627, 628, 629, 630, 631, 632, 633, 634, 635, 636, 637, 638, 639, 640, 641, 642, 643, 644, 645, 646, 647, 648] (by decide +kernel) (by decide +kernel)
set_option maxRecDepth 20000 in
theorem g_law_122_M_function_ok : GoodIn z_law (wsV RL 122 RX16 yX16_function z_M_function_ok) := goodIn_app (goodIn_r _ [251, 252, 253, 111] (by decide +kernel) (by decide +kernel)) gz_M_function_ok
set_option maxRecDepth 20000 in
theorem gz_L_call : GoodIn z_law z_L_call := goodIn_ca (goodIn_r _ [268, 269, 270, 271, 2, 272, 255, 256, 257, 258, 259, 162, 11, 163, 164, 156, 260, 261, 236, 553, 554, 555, 556, 557, 558, 559, 560, 561, 562, 563] (by decide +kernel) (by decide +kernel)) (goodIn_sub (fun _ h => List.mem_cons_of_mem _ (List.mem_append_left _ (List.mem_append_right _ (h)))) (by decide +kernel))
set_option maxRecDepth 20000 in
theorem g_law_123_L_call : GoodIn z_law (va_wsS RL 123 yL_call z_L_call) := goodIn_app (goodIn_r _ [266, 267, 146] (by decide +kernel) (by decide +kernel)) gz_L_call
set_option maxRecDepth 20000 in
theorem gz_M_call : GoodIn z_law z_M_call := goodIn_r _ [276, 262, 263, 264, 111, 265, 134, 174, 175, 176, 118, 177, 178, 179, 622, 623, 624, 625, 626, 627, 628, 629, 630, 631, 632, 633, 634, 635, 636, 637, 638, 639, 640, 641, 642, 643, 644, 645, 646, 647, 648] (by decide +kernel) (by decide +kernel)
set_option maxRecDepth 20000 in
theorem g_law_126_M_call : GoodIn z_law (wsV RL 126 RX16 yX16_call z_M_call) := goodIn_app (goodIn_r _ [273, 274, 275, 111] (by decide +kernel) (by decide +kernel)) gz_M_call
set_option maxRecDepth 20000 in
theorem gz_L_two_neg : GoodIn z_law z_L_two_neg := goodIn_ca (goodIn_r _ [279, 280, 281, 282, 2, 283, 284, 285, 286, 236] (by decide +kernel) (by decide +kernel)) (goodIn_sub (fun _ h => List.mem_cons_of_mem _ (List.mem_append_right _ (h))) (by decide +kernel))
set_option maxRecDepth 20000 in
theorem g_law_127_L_two_neg : GoodIn z_law (va_wsS RL 127 yL_two z_L_two_neg) := goodIn_app (goodIn_r _ [277, 278, 146] (by decide +kernel) (by decide +kernel)) gz_L_two_neg
set_option maxRecDepth 20000 in
theorem gz_M_two_neg : GoodIn z_law z_M_two_neg := goodIn_r _ [290, 179, 622, 623, 624, 625, 626, 627, 628, 629, 630, 631, 632, 633, 634, 635, 636, 637, 638, 639, 640, 641, 642, 643, 644, 645] (by decide +kernel) (by decide +kernel)
set_option maxRecDepth 20000 in
theorem g_law_129_M_two_neg : GoodIn z_law (wsV RL 129 RX16 yX16_two z_M_two_neg) := goodIn_app (goodIn_r _ [287, 288, 289, 111] (by decide +kernel) (by decide +kernel)) gz_M_two_neg
set_option maxRecDepth 20000 in
theorem gz_L_two_big : GoodIn z_law z_L_two_big := goodIn_ca (goodIn_r _ [279, 280, 281, 282, 2, 283, 284, 285, 286, 236] (by decide +kernel) (by decide +kernel)) (goodIn_sub (fun _ h => List.mem_cons_of_mem _ (List.mem_append_right _ (h))) (by decide +kernel))
set_option maxRecDepth 20000 in
theorem g_law_127_L_two_big : GoodIn z_law (va_wsS RL 127 yL_two z_L_two_big) := goodIn_app (goodIn_r _ [277, 278, 146] (by decide +kernel) (by decide +kernel)) gz_L_two_big
set_option maxRecDepth 20000 in
theorem gz_M_two_big : GoodIn z_law z_M_two_big := goodIn_r _ [290, 179, 622, 623, 624, 625, 626, 627, 628, 629, 630, 631, 632, 633, 634, 635, 636, 637, 638, 639, 640, 641, 642, 643, 644, 645] (by decide +kernel) (by decide +kernel)
set_option maxRecDepth 20000 in
theorem g_law_129_M_two_big : GoodIn z_law (wsV RL 129 RX16 yX16_two z_M_two_big) := goodIn_app (goodIn_r _ [287, 288, 289, 111] (by decide +kernel) (by decide +kernel)) gz_M_two_big
set_option maxRecDepth 20000 in
theorem gz_L_two_ok : GoodIn z_law z_L_two_ok := goodIn_ca (goodIn_r _ [279, 280, 281, 282, 2, 283, 255, 256, 257, 258, 259, 162, 11, 163, 164, 156, 260, 261, 286, 236, 553, 554, 555, 556, 557, 558, 559, 560, 561, 562, 563] (by decide +kernel) (by decide +kernel)) (goodIn_sub (fun _ h => List.mem_cons_of_mem _ (List.mem_append_left _ (List.mem_append_right _ (h)))) (by decide +kernel))
set_option maxRecDepth 20000 in
theorem g_law_127_L_two_ok : GoodIn z_law (va_wsS RL 127 yL_two z_L_two_ok) := goodIn_app (goodIn_r _ [277, 278, 146] (by decide +kernel) (by decide +kernel)) gz_L_two_ok
set_option maxRecDepth 20000 in
theorem gz_M_two_ok : GoodIn z_law z_M_two_ok := goodIn_r _ [290, 262, 263, 264, 111, 265, 134, 174, 175, 176, 118, 177, 178, 179, 622, 623, 624, 625, 626, 627, 628, 629, 630, 631, 632, 633, 634, 635, 636, 637, 638, 639, 640, 641, 642, 643, 644, 645, 646, 647, 648] (by decide +kernel) (by decide +kernel)
set_option maxRecDepth 20000 in
theorem g_law_129_M_two_ok : GoodIn z_law (wsV RL 129 RX16 yX16_two z_M_two_ok) := goodIn_app (goodIn_r _ [287, 288, 289, 111] (by decide +kernel) (by decide +kernel)) gz_M_two_ok
set_option maxRecDepth 20000 in
theorem gz_L_choose : GoodIn z_law z_L_choose := goodIn_ca (goodIn_r _ [293, 294, 295, 296, 2, 297, 255, 256, 257, 258, 259, 162, 11, 163, 164, 156, 260, 261, 236, 553, 554, 555, 556, 557, 558, 559, 560, 561, 562, 563] (by decide +kernel) (by decide +kernel)) (goodIn_sub (fun _ h => List.mem_cons_of_mem _ (List.mem_append_left _ (List.mem_append_right _ (h)))) (by decide +kernel))
set_option maxRecDepth 20000 in
theorem g_law_130_L_choose : GoodIn z_law (va_wsS RL 130 yL_choose z_L_choose) := goodIn_app (goodIn_r _ [291, 292, 146] (by decide +kernel) (by decide +kernel)) gz_L_choose
set_option maxRecDepth 20000 in
theorem gz_M_choose : GoodIn z_law z_M_choose := goodIn_r _ [301, 262, 263, 264, 111, 265, 134, 174, 175, 176, 118, 177, 178, 179, 622, 623, 624, 625, 626, 627, 628, 629, 630, 631, 632, 633, 634, 635, 636, 637, 638, 639, 640, 641, 642, 643, 644, 645, 646, 647, 648] (by decide +kernel) (by decide +kernel)
set_option maxRecDepth 20000 in
theorem g_law_132_M_choose : GoodIn z_law (wsV RL 132 RX16 yX16_choose z_M_choose) := goodIn_app (goodIn_r _ [298, 299, 300, 111] (by decide +kernel) (by decide +kernel)) gz_M_choose
set_option maxRecDepth 20000 in
theorem gz_L_let_neg : GoodIn z_law z_L_let_neg := goodIn_ca (goodIn_r _ [304, 305, 306, 307, 2, 308, 230, 231, 232, 233, 234, 235, 236] (by decide +kernel) (by decide +kernel)) (goodIn_sub (fun _ h => List.mem_cons_of_mem _ (List.mem_append_left _ (List.mem_append_left _ (List.mem_append_right _ (h))))) (by decide +kernel))
set_option maxRecDepth 20000 in
theorem g_law_133_L_let_neg : GoodIn z_law (va_wsS RL 133 yL_let z_L_let_neg) := goodIn_app (goodIn_r _ [302, 303, 146] (by decide +kernel) (by decide +kernel)) gz_L_let_neg
set_option maxRecDepth 20000 in
theorem gz_M_let_neg : GoodIn z_law z_M_let_neg := goodIn_r _ [312, 241, 242, 111, 243, 179, 622, 623, 624, 625, 626, 627, 628, 629, 630, 631, 632, 633, 634, 635, 636, 637, 638, 639, 640, 641, 642, 643, 644, 645] (by decide +kernel) (by decide +kernel)
set_option maxRecDepth 20000 in
theorem g_law_135_M_let_neg : GoodIn z_law (wsV RL 135 RX16 yX16_let z_M_let_neg) := goodIn_app (goodIn_r _ [309, 310, 311, 111] (by decide +kernel) (by decide +kernel)) gz_M_let_neg
set_option maxRecDepth 20000 in
theorem gz_L_let_big : GoodIn z_law z_L_let_big := goodIn_ca (goodIn_r _ [304, 305, 306, 307, 2, 308, 230, 231, 232, 233, 234, 235, 236] (by decide +kernel) (by decide +kernel)) (goodIn_sub (fun _ h => List.mem_cons_of_mem _ (List.mem_append_left _ (List.mem_append_left _ (List.mem_append_right _ (h))))) (by decide +kernel))
set_option maxRecDepth 20000 in
theorem g_law_133_L_let_big : GoodIn z_law (va_wsS RL 133 yL_let z_L_let_big) := goodIn_app (goodIn_r _ [302, 303, 146] (by decide +kernel) (by decide +kernel)) gz_L_let_big
set_option maxRecDepth 20000 in
theorem gz_M_let_big : GoodIn z_law z_M_let_big := goodIn_r _ [312, 241, 242, 111, 243, 179, 622, 623, 624, 625, 626, 627, 628, 629, 630, 631, 632, 633, 634, 635, 636, 637, 638, 639, 640, 641, 642, 643, 644, 645] (by decide +kernel) (by decide +kernel)
set_option maxRecDepth 20000 in
theorem g_law_135_M_let_big : GoodIn z_law (wsV RL 135 RX16 yX16_let z_M_let_big) := goodIn_app (goodIn_r _ [309, 310, 311, 111] (by decide +kernel) (by decide +kernel)) gz_M_let_big
set_option maxRecDepth 20000 in
theorem gz_L_let_ok : GoodIn z_law z_L_let_ok := goodIn_ca (goodIn_r _ [304, 305, 306, 307, 2, 308, 230, 231, 232, 255, 256, 257, 258, 259, 162, 11, 163, 164, 156, 260, 261, 235, 236, 553, 554, 555, 556, 557, 558, 559, 560, 561, 562, 563] (by decide +kernel) (by decide +kernel)) (goodIn_sub (fun _ h => List.mem_cons_of_mem _ (List.mem_append_left _ (List.mem_append_right _ (h)))) (by decide +kernel))
set_option maxRecDepth 20000 in
theorem g_law_133_L_let_ok : GoodIn z_law (va_wsS RL 133 yL_let z_L_let_ok) := goodIn_app (goodIn_r _ [302, 303, 146] (by decide +kernel) (by decide +kernel)) gz_L_let_ok
set_option maxRecDepth 20000 in
theorem gz_M_let_ok : GoodIn z_law z_M_let_ok := goodIn_r _ [312, 241, 242, 111, 243, 262, 263, 264, 265, 134, 174, 175, 176, 118, 177, 178, 179, 622, 623, 624, 625, 626, 627, 628, 629, 630, 631, 632, 633, 634, 635, 636, 637, 638, 639, 640, 641, 642, 643, 644, 645, 646, 647, 648] (by decide +kernel) (by decide +kernel)
set_option maxRecDepth 20000 in
theorem g_law_135_M_let_ok : GoodIn z_law (wsV RL 135 RX16 yX16_let z_M_let_ok) := goodIn_app (goodIn_r _ [309, 310, 311, 111] (by decide +kernel) (by decide +kernel)) gz_M_let_ok
set_option maxRecDepth 20000 in
theorem gz_L_rec_fneg : GoodIn z_law z_L_rec_fneg := goodIn_ca (goodIn_r _ [315, 316, 317, 318, 2, 319, 230, 231, 232, 233, 234, 235, 236] (by decide +kernel) (by decide +kernel)) (goodIn_sub (fun _ h => List.mem_cons_of_mem _ (List.mem_append_left _ (List.mem_append_left _ (List.mem_append_right _ (h))))) (by decide +kernel))
set_option maxRecDepth 20000 in
theorem g_law_136_L_rec_fneg : GoodIn z_law (va_wsS RL 136 yL_rec z_L_rec_fneg) := goodIn_app (goodIn_r _ [313, 314, 146] (by decide +kernel) (by decide +kernel)) gz_L_rec_fneg
set_option maxRecDepth 20000 in
theorem gz_M_rec_fneg : GoodIn z_law z_M_rec_fneg := goodIn_r _ [323, 241, 242, 111, 243, 179, 622, 623, 624, 625, 626, 627, 628, 629, 630, 631, 632, 633, 634, 635, 636, 637, 638, 639, 640, 641, 642, 643, 644, 645] (by decide +kernel) (by decide +kernel)
set_option maxRecDepth 20000 in
theorem g_law_139_M_rec_fneg : GoodIn z_law (wsV RL 139 RX16 yX16_rec z_M_rec_fneg) := goodIn_app (goodIn_r _ [320, 321, 322, 111] (by decide +kernel) (by decide +kernel)) gz_M_rec_fneg
set_option maxRecDepth 20000 in
theorem gz_L_rec_fbig : GoodIn z_law z_L_rec_fbig := goodIn_ca (goodIn_r _ [315, 316, 317, 318, 2, 319, 230, 231, 232, 233, 234, 235, 236] (by decide +kernel) (by decide +kernel)) (goodIn_sub (fun _ h => List.mem_cons_of_mem _ (List.mem_append_left _ (List.mem_append_left _ (List.mem_append_right _ (h))))) (by decide +kernel))
set_option maxRecDepth 20000 in
theorem g_law_136_L_rec_fbig : GoodIn z_law (va_wsS RL 136 yL_rec z_L_rec_fbig) := goodIn_app (goodIn_r _ [313, 314, 146] (by decide +kernel) (by decide +kernel)) gz_L_rec_fbig
set_option maxRecDepth 20000 in
theorem gz_M_rec_fbig : GoodIn z_law z_M_rec_fbig := goodIn_r _ [323, 241, 242, 111, 243, 179, 622, 623, 624, 625, 626, 627, 628, 629, 630, 631, 632, 633, 634, 635, 636, 637, 638, 639, 640, 641, 642, 643, 644, 645] (by decide +kernel) (by decide +kernel)
set_option maxRecDepth 20000 in
theorem g_law_139_M_rec_fbig : GoodIn z_law (wsV RL 139 RX16 yX16_rec z_M_rec_fbig) := goodIn_app (goodIn_r _ [320, 321, 322, 111] (by decide +kernel) (by decide +kernel)) gz_M_rec_fbig
set_option maxRecDepth 20000 in
theorem gz_L_rec_xneg : GoodIn z_law z_L_rec_xneg := goodIn_ca (goodIn_r _ [315, 316, 317, 318, 2, 319, 230, 231, 232, 233, 234, 235, 236] (by decide +kernel) (by decide +kernel)) (goodIn_sub (fun _ h => List.mem_cons_of_mem _ (List.mem_append_left _ (List.mem_append_left _ (List.mem_append_right _ (h))))) (by decide +kernel))
set_option maxRecDepth 20000 in
theorem g_law_136_L_rec_xneg : GoodIn z_law (va_wsS RL 136 yL_rec z_L_rec_xneg) := goodIn_app (goodIn_r _ [313, 314, 146] (by decide +kernel) (by decide +kernel)) gz_L_rec_xneg
set_option maxRecDepth 20000 in
theorem gz_M_rec_xneg : GoodIn z_law z_M_rec_xneg := goodIn_r _ [323, 241, 242, 111, 243, 179, 622, 623, 624, 625, 626, 627, 628, 629, 630, 631, 632, 633, 634, 635, 636, 637, 638, 639, 640, 641, 642, 643, 644, 645] (by decide +kernel) (by decide +kernel)
set_option maxRecDepth 20000 in
theorem g_law_139_M_rec_xneg : GoodIn z_law (wsV RL 139 RX16 yX16_rec z_M_rec_xneg) := goodIn_app (goodIn_r _ [320, 321, 322, 111] (by decide +kernel) (by decide +kernel)) gz_M_rec_xneg
set_option maxRecDepth 20000 in
theorem gz_L_rec_xbig : GoodIn z_law z_L_rec_xbig := goodIn_ca (goodIn_r _ [315, 316, 317, 318, 2, 319, 230, 231, 232, 233, 234, 235, 236] (by decide +kernel) (by decide +kernel)) (goodIn_sub (fun _ h => List.mem_cons_of_mem _ (List.mem_append_left _ (List.mem_append_left _ (List.mem_append_right _ (h))))) (by decide +kernel))
set_option maxRecDepth 20000 in
theorem g_law_136_L_rec_xbig : GoodIn z_law (va_wsS RL 136 yL_rec z_L_rec_xbig) := goodIn_app (goodIn_r _ [313, 314, 146] (by decide +kernel) (by decide +kernel)) gz_L_rec_xbig
set_option maxRecDepth 20000 in
theorem gz_M_rec_xbig : GoodIn z_law z_M_rec_xbig := goodIn_r _ [323, 241, 242, 111, 243, 179, 622, 623, 624, 625, 626, 627, 628, 629, 630, 631, 632, 633, 634, 635, 636, 637, 638, 639, 640, 641, 642, 643, 644, 645] (by decide +kernel) (by decide +kernel)
set_option maxRecDepth 20000 in
theorem g_law_139_M_rec_xbig : GoodIn z_law (wsV RL 139 RX16 yX16_rec z_M_rec_xbig) := goodIn_app (goodIn_r _ [320, 321, 322, 111] (by decide +kernel) (by decide +kernel)) gz_M_rec_xbig
set_option maxRecDepth 20000 in
theorem gz_L_rec_ok : GoodIn z_law z_L_rec_ok := goodIn_ca (goodIn_r _ [315, 316, 317, 318, 2, 319, 230, 231, 232, 255, 256, 257, 258, 259, 162, 11, 163, 164, 156, 260, 261, 235, 236, 553, 554, 555, 556, 557, 558, 559, 560, 561, 562, 563] (by decide +kernel) (by decide +kernel)) (goodIn_sub (fun _ h => List.mem_cons_of_mem _ (List.mem_append_left _ (List.mem_append_right _ (h)))) (by decide +kernel))
set_option maxRecDepth 20000 in
theorem g_law_136_L_rec_ok : GoodIn z_law (va_wsS RL 136 yL_rec z_L_rec_ok) := goodIn_app (goodIn_r _ [313, 314, 146] (by decide +kernel) (by decide +kernel)) gz_L_rec_ok
set_option maxRecDepth 20000 in
theorem gz_M_rec_ok : GoodIn z_law z_M_rec_ok := goodIn_r _ [323, 241, 242, 111, 243, 262, 263, 264, 265, 134, 174, 175, 176, 118, 177, 178, 179, 622, 623, 624, 625, 626, 627, 628, 629, 630, 631, 632, 633, 634, 635, 636, 637, 638, 639, 640, 641, 642, 643, 644, 645, 646, 647, 648] (by decide +kernel) (by decide +kernel)
set_option maxRecDepth 20000 in
theorem g_law_139_M_rec_ok : GoodIn z_law (wsV RL 139 RX16 yX16_rec z_M_rec_ok) := goodIn_app (goodIn_r _ [320, 321, 322, 111] (by decide +kernel) (by decide +kernel)) gz_M_rec_ok
set_option maxRecDepth 20000 in
theorem gz_L_pair : GoodIn z_law z_L_pair := goodIn_ca (goodIn_r _ [326, 327, 328, 329, 2, 330, 255, 256, 257, 258, 259, 162, 11, 163, 164, 156, 260, 261, 236, 553, 554, 555, 556, 557, 558, 559, 560, 561, 562, 563] (by decide +kernel) (by decide +kernel)) (goodIn_sub (fun _ h => List.mem_cons_of_mem _ (List.mem_append_left _ (List.mem_append_right _ (h)))) (by decide +kernel))
set_option maxRecDepth 20000 in
theorem g_law_140_L_pair : GoodIn z_law (va_wsS RL 140 yL_pair z_L_pair) := goodIn_app (goodIn_r _ [324, 325, 146] (by decide +kernel) (by decide +kernel)) gz_L_pair
set_option maxRecDepth 20000 in
theorem gz_M_pair : GoodIn z_law z_M_pair := goodIn_r _ [334, 262, 263, 264, 111, 265, 134, 174, 175, 176, 118, 177, 178, 179, 622, 623, 624, 625, 626, 627, 628, 629, 630, 631, 632, 633, 634, 635, 636, 637, 638, 639, 640, 641, 642, 643, 644, 645, 646, 647, 648] (by decide +kernel) (by decide +kernel)
set_option maxRecDepth 20000 in
theorem g_law_142_M_pair : GoodIn z_law (wsV RL 142 RX16 yX16_pair z_M_pair) := goodIn_app (goodIn_r _ [331, 332, 333, 111] (by decide +kernel) (by decide +kernel)) gz_M_pair
set_option maxRecDepth 20000 in
theorem gz_L_half : GoodIn z_law z_L_half := goodIn_ca (goodIn_r _ [337, 338, 339, 340, 2, 341, 255, 256, 257, 258, 259, 162, 11, 163, 164, 156, 260, 261, 236, 553, 554, 555, 556, 557, 558, 559, 560, 561, 562, 563] (by decide +kernel) (by decide +kernel)) (goodIn_sub (fun _ h => List.mem_cons_of_mem _ (List.mem_append_left _ (List.mem_append_right _ (h)))) (by decide +kernel))
set_option maxRecDepth 20000 in
theorem g_law_143_L_half : GoodIn z_law (va_wsS RL 143 yL_half z_L_half) := goodIn_app (goodIn_r _ [335, 336, 146] (by decide +kernel) (by decide +kernel)) gz_L_half
set_option maxRecDepth 20000 in
theorem gz_M_half : GoodIn z_law z_M_half := goodIn_r _ [345, 262, 263, 264, 111, 265, 134, 174, 175, 176, 118, 177, 178, 179, 622, 623, 624, 625, 626, 627, 628, 629, 630, 631, 632, 633, 634, 635, 636, 637, 638, 639, 640, 641, 642, 643, 644, 645, 646, 647, 648] (by decide +kernel) (by decide +kernel)
set_option maxRecDepth 20000 in
theorem g_law_146_M_half : GoodIn z_law (wsV RL 146 RX16 yX16_half z_M_half) := goodIn_app (goodIn_r _ [342, 343, 344, 111] (by decide +kernel) (by decide +kernel)) gz_M_half
set_option maxRecDepth 20000 in
theorem gz_L_raise : GoodIn z_law z_L_raise := goodIn_ca (goodIn_r _ [348, 349, 350, 351, 2, 352, 255, 256, 257, 258, 259, 162, 11, 163, 164, 156, 260, 261, 236, 553, 554, 555, 556, 557, 558, 559, 560, 561, 562, 563] (by decide +kernel) (by decide +kernel)) (goodIn_sub (fun _ h => List.mem_cons_of_mem _ (List.mem_append_left _ (List.mem_append_right _ (h)))) (by decide +kernel))
set_option maxRecDepth 20000 in
theorem g_law_147_L_raise : GoodIn z_law (va_wsS RL 147 yL_raise z_L_raise) := goodIn_app (goodIn_r _ [346, 347, 146] (by decide +kernel) (by decide +kernel)) gz_L_raise
set_option maxRecDepth 20000 in
theorem gz_M_raise : GoodIn z_law z_M_raise := goodIn_r _ [356, 262, 263, 264, 111, 265, 134, 174, 175, 176, 118, 177, 178, 179, 622, 623, 624, 625, 626, 627, 628, 629, 630, 631, 632, 633, 634, 635, 636, 637, 638, 639, 640, 641, 642, 643, 644, 645, 646, 647, 648] (by decide +kernel) (by decide +kernel)
set_option maxRecDepth 20000 in
theorem g_law_149_M_raise : GoodIn z_law (wsV RL 149 RX16 yX16_raise z_M_raise) := goodIn_app (goodIn_r _ [353, 354, 355, 111] (by decide +kernel) (by decide +kernel)) gz_M_raise
set_option maxRecDepth 20000 in
theorem gz_L_handle_neg : GoodIn z_law z_L_handle_neg := goodIn_ca (goodIn_r _ [359, 360, 361, 362, 2, 363, 230, 231, 232, 233, 234, 235, 236] (by decide +kernel) (by decide +kernel)) (goodIn_sub (fun _ h => List.mem_cons_of_mem _ (List.mem_append_left _ (List.mem_append_left _ (List.mem_append_right _ (h))))) (by decide +kernel))
set_option maxRecDepth 20000 in
theorem g_law_150_L_handle_neg : GoodIn z_law (va_wsS RL 150 yL_handle z_L_handle_neg) := goodIn_app (goodIn_r _ [357, 358, 146] (by decide +kernel) (by decide +kernel)) gz_L_handle_neg
set_option maxRecDepth 20000 in
theorem gz_M_handle_neg : GoodIn z_law z_M_handle_neg := goodIn_r _ [367, 241, 242, 111, 243, 179, 622, 623, 624, 625, 626, 627, 628, 629, 630, 631, 632, 633, 634, 635, 636, 637, 638, 639, 640, 641, 642, 643, 644, 645] (by decide +kernel) (by decide +kernel)
set_option maxRecDepth 20000 in
theorem g_law_152_M_handle_neg : GoodIn z_law (wsV RL 152 RX16 yX16_handle z_M_handle_neg) := goodIn_app (goodIn_r _ [364, 365, 366, 111] (by decide +kernel) (by decide +kernel)) gz_M_handle_neg
set_option maxRecDepth 20000 in
theorem gz_L_handle_big : GoodIn z_law z_L_handle_big := goodIn_ca (goodIn_r _ [359, 360, 361, 362, 2, 363, 230, 231, 232, 233, 234, 235, 236] (by decide +kernel) (by decide +kernel)) (goodIn_sub (fun _ h => List.mem_cons_of_mem _ (List.mem_append_left _ (List.mem_append_left _ (List.mem_append_right _ (h))))) (by decide +kernel))
set_option maxRecDepth 20000 in
theorem g_law_150_L_handle_big : GoodIn z_law (va_wsS RL 150 yL_handle z_L_handle_big) := goodIn_app (goodIn_r _ [357, 358, 146] (by decide +kernel) (by decide +kernel)) gz_L_handle_big
set_option maxRecDepth 20000 in
theorem gz_M_handle_big : GoodIn z_law z_M_handle_big := goodIn_r _ [367, 241, 242, 111, 243, 179, 622, 623, 624, 625, 626, 627, 628, 629, 630, 631, 632, 633, 634, 635, 636, 637, 638, 639, 640, 641, 642, 643, 644, 645] (by decide +kernel) (by decide +kernel)
set_option maxRecDepth 20000 in
theorem g_law_152_M_handle_big : GoodIn z_law (wsV RL 152 RX16 yX16_handle z_M_handle_big) := goodIn_app (goodIn_r _ [364, 365, 366, 111] (by decide +kernel) (by decide +kernel)) gz_M_handle_big
set_option maxRecDepth 20000 in
theorem gz_L_handle_ok : GoodIn z_law z_L_handle_ok := goodIn_ca (goodIn_r _ [359, 360, 361, 362, 2, 363, 230, 231, 232, 255, 256, 257, 258, 259, 162, 11, 163, 164, 156, 260, 261, 235, 236, 553, 554, 555, 556, 557, 558, 559, 560, 561, 562, 563] (by decide +kernel) (by decide +kernel)) (goodIn_sub (fun _ h => List.mem_cons_of_mem _ (List.mem_append_left _ (List.mem_append_right _ (h)))) (by decide +kernel))
set_option maxRecDepth 20000 in
theorem g_law_150_L_handle_ok : GoodIn z_law (va_wsS RL 150 yL_handle z_L_handle_ok) := goodIn_app (goodIn_r _ [357, 358, 146] (by decide +kernel) (by decide +kernel)) gz_L_handle_ok
set_option maxRecDepth 20000 in
theorem gz_M_handle_ok : GoodIn z_law z_M_handle_ok := goodIn_r _ [367, 241, 242, 111, 243, 262, 263, 264, 265, 134, 174, 175, 176, 118, 177, 178, 179, 622, 623, 624, 625, 626, 627, 628, 629, 630, 631, 632, 633, 634, 635, 636, 637, 638, 639, 640, 641, 642, 643, 644, 645, 646, 647, 648] (by decide +kernel) (by decide +kernel)
set_option maxRecDepth 20000 in
theorem g_law_152_M_handle_ok : GoodIn z_law (wsV RL 152 RX16 yX16_handle z_M_handle_ok) := goodIn_app (goodIn_r _ [364, 365, 366, 111] (by decide +kernel) (by decide +kernel)) gz_M_handle_ok
set_option maxRecDepth 20000 in
theorem gz_L_program : GoodIn z_law z_L_program := goodIn_ca (goodIn_r _ [370, 371, 372, 373, 2, 374, 156, 260, 261, 236, 553, 554, 555, 556, 557, 558, 559, 560, 561, 562, 563] (by decide +kernel) (by decide +kernel)) (goodIn_sub (fun _ h => List.mem_cons_of_mem _ (List.mem_append_left _ (List.mem_append_right _ (h)))) (by decide +kernel))
set_option maxRecDepth 20000 in
theorem g_law_153_L_program : GoodIn z_law (va_wsS RL 153 yL_program z_L_program) := goodIn_app (goodIn_r _ [368, 369, 146] (by decide +kernel) (by decide +kernel)) gz_L_program
set_option maxRecDepth 20000 in
theorem gz_M_program : GoodIn z_law z_M_program := goodIn_r _ [378, 134, 379, 380, 381, 118, 382, 178, 179, 622, 623, 624, 625, 626, 627, 628, 629, 630, 631, 632, 633, 634, 635, 636, 637, 638, 639, 640, 641, 642, 643, 644, 645, 646, 647, 648] (by decide +kernel) (by decide +kernel)
set_option maxRecDepth 20000 in
theorem g_law_155_M_program : GoodIn z_law (wsV RL 155 RX16 yX16_program z_M_program) := goodIn_app (goodIn_r _ [375, 376, 377, 111] (by decide +kernel) (by decide +kernel)) gz_M_program
set_option maxRecDepth 20000 in
theorem gz_L_fault : GoodIn z_law z_L_fault := goodIn_ca (goodIn_r _ [385, 386, 387, 388, 2, 389, 28, 260, 261, 236, 553, 554, 555, 556, 557, 558, 559, 560, 561, 562, 563] (by decide +kernel) (by decide +kernel)) (goodIn_sub (fun _ h => List.mem_cons_of_mem _ (List.mem_append_left _ (List.mem_append_right _ (h)))) (by decide +kernel))
set_option maxRecDepth 20000 in
theorem g_law_156_L_fault : GoodIn z_law (va_wsS RL 156 yL_fault z_L_fault) := goodIn_app (goodIn_r _ [383, 384, 146] (by decide +kernel) (by decide +kernel)) gz_L_fault
set_option maxRecDepth 20000 in
theorem gz_M_fault : GoodIn z_law z_M_fault := goodIn_r _ [393, 394, 179, 622, 623, 624, 625, 626, 627, 628, 629, 630, 631, 632, 633, 634, 635, 636, 637, 638, 639, 640, 641, 642, 643, 644, 645] (by decide +kernel) (by decide +kernel)
set_option maxRecDepth 20000 in
theorem g_law_158_M_fault : GoodIn z_law (wsV RL 158 RX16 yX16_fault z_M_fault) := goodIn_app (goodIn_r _ [390, 391, 392, 111] (by decide +kernel) (by decide +kernel)) gz_M_fault
set_option maxRecDepth 20000 in
theorem gz_L_type_neg : GoodIn z_law z_L_type_neg := goodIn_ca (goodIn_r _ [397, 398, 399, 400, 2, 401, 233, 234, 235, 236] (by decide +kernel) (by decide +kernel)) (goodIn_sub (fun _ h => List.mem_cons_of_mem _ (List.mem_append_left _ (List.mem_append_left _ (List.mem_append_right _ (h))))) (by decide +kernel))
set_option maxRecDepth 20000 in
theorem g_law_159_L_type_neg : GoodIn z_law (va_wsS RL 159 yL_type z_L_type_neg) := goodIn_app (goodIn_r _ [395, 396, 146] (by decide +kernel) (by decide +kernel)) gz_L_type_neg
set_option maxRecDepth 20000 in
theorem gz_M_type_neg : GoodIn z_law z_M_type_neg := goodIn_r _ [405, 179, 622, 623, 624, 625, 626, 627, 628, 629, 630, 631, 632, 633, 634, 635, 636, 637, 638, 639, 640, 641, 642, 643, 644, 645] (by decide +kernel) (by decide +kernel)
set_option maxRecDepth 20000 in
theorem g_law_161_M_type_neg : GoodIn z_law (wsV RL 161 RX16 yX16_type z_M_type_neg) := goodIn_app (goodIn_r _ [402, 403, 404, 111] (by decide +kernel) (by decide +kernel)) gz_M_type_neg
set_option maxRecDepth 20000 in
theorem gz_L_type_ok : GoodIn z_law z_L_type_ok := goodIn_ca (goodIn_r _ [397, 398, 399, 400, 2, 401, 406, 407, 408, 409, 28, 260, 261, 235, 236, 553, 554, 555, 556, 557, 558, 559, 560, 561, 562, 563] (by decide +kernel) (by decide +kernel)) (goodIn_sub (fun _ h => List.mem_cons_of_mem _ (List.mem_append_left _ (List.mem_append_right _ (h)))) (by decide +kernel))
set_option maxRecDepth 20000 in
theorem g_law_159_L_type_ok : GoodIn z_law (va_wsS RL 159 yL_type z_L_type_ok) := goodIn_app (goodIn_r _ [395, 396, 146] (by decide +kernel) (by decide +kernel)) gz_L_type_ok
set_option maxRecDepth 20000 in
theorem gz_M_type_ok : GoodIn z_law z_M_type_ok := goodIn_r _ [405, 410, 411, 412, 111, 413, 394, 179, 622, 623, 624, 625, 626, 627, 628, 629, 630, 631, 632, 633, 634, 635, 636, 637, 638, 639, 640, 641, 642, 643, 644, 645] (by decide +kernel) (by decide +kernel)
set_option maxRecDepth 20000 in
theorem g_law_161_M_type_ok : GoodIn z_law (wsV RL 161 RX16 yX16_type z_M_type_ok) := goodIn_app (goodIn_r _ [402, 403, 404, 111] (by decide +kernel) (by decide +kernel)) gz_M_type_ok
set_option maxRecDepth 20000 in
theorem gz_L_optimise_neg : GoodIn z_law z_L_optimise_neg := goodIn_ca (goodIn_r _ [416, 417, 418, 419, 2, 420, 284, 285, 286, 236] (by decide +kernel) (by decide +kernel)) (goodIn_sub (fun _ h => List.mem_cons_of_mem _ (List.mem_append_right _ (h))) (by decide +kernel))
set_option maxRecDepth 20000 in
theorem g_law_162_L_optimise_neg : GoodIn z_law (va_wsS RL 162 yL_optimise z_L_optimise_neg) := goodIn_app (goodIn_r _ [414, 415, 146] (by decide +kernel) (by decide +kernel)) gz_L_optimise_neg
set_option maxRecDepth 20000 in
theorem gz_M_optimise_neg : GoodIn z_law z_M_optimise_neg := goodIn_r _ [424, 179, 622, 623, 624, 625, 626, 627, 628, 629, 630, 631, 632, 633, 634, 635, 636, 637, 638, 639, 640, 641, 642, 643, 644, 645] (by decide +kernel) (by decide +kernel)
set_option maxRecDepth 20000 in
theorem g_law_164_M_optimise_neg : GoodIn z_law (wsV RL 164 RX16 yX16_optimise z_M_optimise_neg) := goodIn_app (goodIn_r _ [421, 422, 423, 111] (by decide +kernel) (by decide +kernel)) gz_M_optimise_neg
set_option maxRecDepth 20000 in
theorem gz_L_optimise_big : GoodIn z_law z_L_optimise_big := goodIn_ca (goodIn_r _ [416, 417, 418, 419, 2, 420, 284, 285, 286, 236] (by decide +kernel) (by decide +kernel)) (goodIn_sub (fun _ h => List.mem_cons_of_mem _ (List.mem_append_right _ (h))) (by decide +kernel))
set_option maxRecDepth 20000 in
theorem g_law_162_L_optimise_big : GoodIn z_law (va_wsS RL 162 yL_optimise z_L_optimise_big) := goodIn_app (goodIn_r _ [414, 415, 146] (by decide +kernel) (by decide +kernel)) gz_L_optimise_big
set_option maxRecDepth 20000 in
theorem gz_M_optimise_big : GoodIn z_law z_M_optimise_big := goodIn_r _ [424, 179, 622, 623, 624, 625, 626, 627, 628, 629, 630, 631, 632, 633, 634, 635, 636, 637, 638, 639, 640, 641, 642, 643, 644, 645] (by decide +kernel) (by decide +kernel)
set_option maxRecDepth 20000 in
theorem g_law_164_M_optimise_big : GoodIn z_law (wsV RL 164 RX16 yX16_optimise z_M_optimise_big) := goodIn_app (goodIn_r _ [421, 422, 423, 111] (by decide +kernel) (by decide +kernel)) gz_M_optimise_big
set_option maxRecDepth 20000 in
theorem gz_L_optimise_ok : GoodIn z_law z_L_optimise_ok := goodIn_ca (goodIn_r _ [416, 417, 418, 419, 2, 420, 406, 407, 408, 409, 28, 260, 261, 286, 236, 553, 554, 555, 556, 557, 558, 559, 560, 561, 562, 563] (by decide +kernel) (by decide +kernel)) (goodIn_sub (fun _ h => List.mem_cons_of_mem _ (List.mem_append_left _ (List.mem_append_right _ (h)))) (by decide +kernel))
set_option maxRecDepth 20000 in
theorem g_law_162_L_optimise_ok : GoodIn z_law (va_wsS RL 162 yL_optimise z_L_optimise_ok) := goodIn_app (goodIn_r _ [414, 415, 146] (by decide +kernel) (by decide +kernel)) gz_L_optimise_ok
set_option maxRecDepth 20000 in
theorem gz_M_optimise_ok : GoodIn z_law z_M_optimise_ok := goodIn_r _ [424, 410, 411, 412, 111, 413, 394, 179, 622, 623, 624, 625, 626, 627, 628, 629, 630, 631, 632, 633, 634, 635, 636, 637, 638, 639, 640, 641, 642, 643, 644, 645] (by decide +kernel) (by decide +kernel)
set_option maxRecDepth 20000 in
theorem g_law_164_M_optimise_ok : GoodIn z_law (wsV RL 164 RX16 yX16_optimise z_M_optimise_ok) := goodIn_app (goodIn_r _ [421, 422, 423, 111] (by decide +kernel) (by decide +kernel)) gz_M_optimise_ok
set_option maxRecDepth 20000 in
theorem gz_X_size : GoodIn z_law z_X_size := goodIn_r _ [428, 27, 429, 553, 554, 555, 556, 557, 558, 559, 560, 561, 562, 563, 564, 565, 566, 567, 568, 569, 570, 571] (by decide +kernel) (by decide +kernel)
set_option maxRecDepth 20000 in
theorem g_law_165_X_size : GoodIn z_law (wsV RL 165 RX7 yX7_size z_X_size) := goodIn_app (goodIn_r _ [425, 426, 427, 2] (by decide +kernel) (by decide +kernel)) gz_X_size
set_option maxRecDepth 20000 in
theorem gz_M_size : GoodIn z_law z_M_size := goodIn_r _ [433, 179, 434, 622, 623, 624, 625, 626, 627, 628, 629, 630, 631, 632, 633, 634, 635, 636, 637, 638, 639, 640, 641, 642, 643, 644, 645] (by decide +kernel) (by decide +kernel)
set_option maxRecDepth 20000 in
theorem g_law_168_M_size : GoodIn z_law (wsV RL 168 RX16 yX16_size z_M_size) := goodIn_app (goodIn_r _ [430, 431, 432, 111] (by decide +kernel) (by decide +kernel)) gz_M_size
set_option maxRecDepth 20000 in
theorem gz_L_orders : GoodIn z_law z_L_orders := goodIn_ca (goodIn_r _ [437, 438, 439, 440, 2, 441, 406, 407, 408, 409, 28, 260, 261, 236, 553, 554, 555, 556, 557, 558, 559, 560, 561, 562, 563] (by decide +kernel) (by decide +kernel)) (goodIn_sub (fun _ h => List.mem_cons_of_mem _ (List.mem_append_left _ (List.mem_append_right _ (h)))) (by decide +kernel))
set_option maxRecDepth 20000 in
theorem g_law_169_L_orders : GoodIn z_law (va_wsS RL 169 yL_orders z_L_orders) := goodIn_app (goodIn_r _ [435, 436, 146] (by decide +kernel) (by decide +kernel)) gz_L_orders
set_option maxRecDepth 20000 in
theorem gz_M_orders : GoodIn z_law z_M_orders := goodIn_r _ [445, 410, 411, 412, 111, 413, 394, 179, 622, 623, 624, 625, 626, 627, 628, 629, 630, 631, 632, 633, 634, 635, 636, 637, 638, 639, 640, 641, 642, 643, 644, 645] (by decide +kernel) (by decide +kernel)
set_option maxRecDepth 20000 in
theorem g_law_171_M_orders : GoodIn z_law (wsV RL 171 RX16 yX16_orders z_M_orders) := goodIn_app (goodIn_r _ [442, 443, 444, 111] (by decide +kernel) (by decide +kernel)) gz_M_orders
set_option maxRecDepth 20000 in
theorem gz_L_order : GoodIn z_law z_L_order := goodIn_ca (goodIn_r _ [448, 449, 450, 451, 2, 452, 453, 454, 455, 456, 28, 233, 234, 235, 286, 553, 554, 555, 556, 557, 558, 559, 560, 561, 562, 563] (by decide +kernel) (by decide +kernel)) (goodIn_sub (fun _ h => List.mem_cons_of_mem _ (List.mem_append_left _ (List.mem_append_left _ (List.mem_append_right _ (h))))) (by decide +kernel))
set_option maxRecDepth 20000 in
theorem g_law_172_L_order : GoodIn z_law (va_wsS RL 172 yL_order z_L_order) := goodIn_app (goodIn_r _ [446, 447, 146] (by decide +kernel) (by decide +kernel)) gz_L_order
set_option maxRecDepth 20000 in
theorem gz_M_order : GoodIn z_law z_M_order := goodIn_r _ [460, 461, 462, 463, 111, 464, 410, 411, 412, 413, 394, 179, 622, 623, 624, 625, 626, 627, 628, 629, 630, 631, 632, 633, 634, 635, 636, 637, 638, 639, 640, 641, 642, 643, 644, 645] (by decide +kernel) (by decide +kernel)
set_option maxRecDepth 20000 in
theorem g_law_174_M_order : GoodIn z_law (wsV RL 174 RX16 yX16_order z_M_order) := goodIn_app (goodIn_r _ [457, 458, 459, 111] (by decide +kernel) (by decide +kernel)) gz_M_order
set_option maxRecDepth 20000 in
theorem gz_L_stop : GoodIn z_law z_L_stop := goodIn_ca (goodIn_r _ [467, 468, 469, 470, 2, 471, 453, 454, 455, 456, 28, 233, 234, 235, 553, 554, 555, 556, 557, 558, 559, 560, 561, 562, 563] (by decide +kernel) (by decide +kernel)) (goodIn_sub (fun _ h => List.mem_cons_of_mem _ (List.mem_append_left _ (List.mem_append_left _ (List.mem_append_right _ (h))))) (by decide +kernel))
set_option maxRecDepth 20000 in
theorem g_law_175_L_stop : GoodIn z_law (va_wsS RL 175 yL_stop z_L_stop) := goodIn_app (goodIn_r _ [465, 466, 146] (by decide +kernel) (by decide +kernel)) gz_L_stop
set_option maxRecDepth 20000 in
theorem gz_M_stop : GoodIn z_law z_M_stop := goodIn_r _ [475, 461, 462, 463, 111, 464, 410, 411, 412, 413, 394, 179, 622, 623, 624, 625, 626, 627, 628, 629, 630, 631, 632, 633, 634, 635, 636, 637, 638, 639, 640, 641, 642, 643, 644, 645] (by decide +kernel) (by decide +kernel)
set_option maxRecDepth 20000 in
theorem g_law_178_M_stop : GoodIn z_law (wsV RL 178 RX16 yX16_stop z_M_stop) := goodIn_app (goodIn_r _ [472, 473, 474, 111] (by decide +kernel) (by decide +kernel)) gz_M_stop
set_option maxRecDepth 20000 in
theorem gz_L_go_neg : GoodIn z_law z_L_go_neg := goodIn_ca (goodIn_r _ [478, 479, 480, 481, 2, 482, 284, 285, 286, 236] (by decide +kernel) (by decide +kernel)) (goodIn_sub (fun _ h => List.mem_cons_of_mem _ (List.mem_append_right _ (h))) (by decide +kernel))
set_option maxRecDepth 20000 in
theorem g_law_179_L_go_neg : GoodIn z_law (va_wsS RL 179 yL_go z_L_go_neg) := goodIn_app (goodIn_r _ [476, 477, 146] (by decide +kernel) (by decide +kernel)) gz_L_go_neg
set_option maxRecDepth 20000 in
theorem gz_M_go_neg : GoodIn z_law z_M_go_neg := goodIn_r _ [486, 179, 622, 623, 624, 625, 626, 627, 628, 629, 630, 631, 632, 633, 634, 635, 636, 637, 638, 639, 640, 641, 642, 643, 644, 645] (by decide +kernel) (by decide +kernel)
set_option maxRecDepth 20000 in
theorem g_law_181_M_go_neg : GoodIn z_law (wsV RL 181 RX16 yX16_go z_M_go_neg) := goodIn_app (goodIn_r _ [483, 484, 485, 111] (by decide +kernel) (by decide +kernel)) gz_M_go_neg
set_option maxRecDepth 20000 in
theorem gz_L_go_big : GoodIn z_law z_L_go_big := goodIn_ca (goodIn_r _ [478, 479, 480, 481, 2, 482, 284, 285, 286, 236] (by decide +kernel) (by decide +kernel)) (goodIn_sub (fun _ h => List.mem_cons_of_mem _ (List.mem_append_right _ (h))) (by decide +kernel))
set_option maxRecDepth 20000 in
theorem g_law_179_L_go_big : GoodIn z_law (va_wsS RL 179 yL_go z_L_go_big) := goodIn_app (goodIn_r _ [476, 477, 146] (by decide +kernel) (by decide +kernel)) gz_L_go_big
set_option maxRecDepth 20000 in
theorem gz_M_go_big : GoodIn z_law z_M_go_big := goodIn_r _ [486, 179, 622, 623, 624, 625, 626, 627, 628, 629, 630, 631, 632, 633, 634, 635, 636, 637, 638, 639, 640, 641, 642, 643, 644, 645] (by decide +kernel) (by decide +kernel)
set_option maxRecDepth 20000 in
theorem g_law_181_M_go_big : GoodIn z_law (wsV RL 181 RX16 yX16_go z_M_go_big) := goodIn_app (goodIn_r _ [483, 484, 485, 111] (by decide +kernel) (by decide +kernel)) gz_M_go_big
set_option maxRecDepth 20000 in
theorem gz_L_go_ok : GoodIn z_law z_L_go_ok := goodIn_ca (goodIn_r _ [478, 479, 480, 481, 2, 482, 406, 407, 408, 409, 28, 260, 261, 286, 236, 553, 554, 555, 556, 557, 558, 559, 560, 561, 562, 563] (by decide +kernel) (by decide +kernel)) (goodIn_sub (fun _ h => List.mem_cons_of_mem _ (List.mem_append_left _ (List.mem_append_right _ (h)))) (by decide +kernel))
set_option maxRecDepth 20000 in
theorem g_law_179_L_go_ok : GoodIn z_law (va_wsS RL 179 yL_go z_L_go_ok) := goodIn_app (goodIn_r _ [476, 477, 146] (by decide +kernel) (by decide +kernel)) gz_L_go_ok
set_option maxRecDepth 20000 in
theorem gz_M_go_ok : GoodIn z_law z_M_go_ok := goodIn_r _ [486, 410, 411, 412, 111, 413, 394, 179, 622, 623, 624, 625, 626, 627, 628, 629, 630, 631, 632, 633, 634, 635, 636, 637, 638, 639, 640, 641, 642, 643, 644, 645] (by decide +kernel) (by decide +kernel)
set_option maxRecDepth 20000 in
theorem g_law_181_M_go_ok : GoodIn z_law (wsV RL 181 RX16 yX16_go z_M_go_ok) := goodIn_app (goodIn_r _ [483, 484, 485, 111] (by decide +kernel) (by decide +kernel)) gz_M_go_ok
set_option maxRecDepth 20000 in
theorem gz_L_again : GoodIn z_law z_L_again := goodIn_ca (goodIn_r _ [489, 490, 491, 492, 2, 493, 406, 407, 408, 409, 28, 260, 261, 236, 553, 554, 555, 556, 557, 558, 559, 560, 561, 562, 563] (by decide +kernel) (by decide +kernel)) (goodIn_sub (fun _ h => List.mem_cons_of_mem _ (List.mem_append_left _ (List.mem_append_right _ (h)))) (by decide +kernel))
set_option maxRecDepth 20000 in
theorem g_law_182_L_again : GoodIn z_law (va_wsS RL 182 yL_again z_L_again) := goodIn_app (goodIn_r _ [487, 488, 146] (by decide +kernel) (by decide +kernel)) gz_L_again
set_option maxRecDepth 20000 in
theorem gz_M_again : GoodIn z_law z_M_again := goodIn_r _ [497, 410, 411, 412, 111, 413, 394, 179, 622, 623, 624, 625, 626, 627, 628, 629, 630, 631, 632, 633, 634, 635, 636, 637, 638, 639, 640, 641, 642, 643, 644, 645] (by decide +kernel) (by decide +kernel)
set_option maxRecDepth 20000 in
theorem g_law_185_M_again : GoodIn z_law (wsV RL 185 RX16 yX16_again z_M_again) := goodIn_app (goodIn_r _ [494, 495, 496, 111] (by decide +kernel) (by decide +kernel)) gz_M_again
set_option maxRecDepth 20000 in
theorem gz_L_state : GoodIn z_law z_L_state := goodIn_ca (goodIn_r _ [500, 501, 502, 503, 2, 504, 406, 407, 408, 409, 28, 260, 261, 236, 553, 554, 555, 556, 557, 558, 559, 560, 561, 562, 563] (by decide +kernel) (by decide +kernel)) (goodIn_sub (fun _ h => List.mem_cons_of_mem _ (List.mem_append_left _ (List.mem_append_right _ (h)))) (by decide +kernel))
set_option maxRecDepth 20000 in
theorem g_law_186_L_state : GoodIn z_law (va_wsS RL 186 yL_state z_L_state) := goodIn_app (goodIn_r _ [498, 499, 146] (by decide +kernel) (by decide +kernel)) gz_L_state
set_option maxRecDepth 20000 in
theorem gz_M_state : GoodIn z_law z_M_state := goodIn_r _ [508, 410, 411, 412, 111, 413, 394, 179, 622, 623, 624, 625, 626, 627, 628, 629, 630, 631, 632, 633, 634, 635, 636, 637, 638, 639, 640, 641, 642, 643, 644, 645] (by decide +kernel) (by decide +kernel)
set_option maxRecDepth 20000 in
theorem g_law_188_M_state : GoodIn z_law (wsV RL 188 RX16 yX16_state z_M_state) := goodIn_app (goodIn_r _ [505, 506, 507, 111] (by decide +kernel) (by decide +kernel)) gz_M_state
set_option maxRecDepth 20000 in
theorem gz_L_value : GoodIn z_law z_L_value := goodIn_ca (goodIn_r _ [511, 512, 513, 514, 2, 515, 406, 407, 408, 409, 28, 260, 261, 236, 553, 554, 555, 556, 557, 558, 559, 560, 561, 562, 563] (by decide +kernel) (by decide +kernel)) (goodIn_sub (fun _ h => List.mem_cons_of_mem _ (List.mem_append_left _ (List.mem_append_right _ (h)))) (by decide +kernel))
set_option maxRecDepth 20000 in
theorem g_law_189_L_value : GoodIn z_law (va_wsS RL 189 yL_value z_L_value) := goodIn_app (goodIn_r _ [509, 510, 146] (by decide +kernel) (by decide +kernel)) gz_L_value
set_option maxRecDepth 20000 in
theorem gz_M_value : GoodIn z_law z_M_value := goodIn_r _ [519, 410, 411, 412, 111, 413, 394, 179, 622, 623, 624, 625, 626, 627, 628, 629, 630, 631, 632, 633, 634, 635, 636, 637, 638, 639, 640, 641, 642, 643, 644, 645] (by decide +kernel) (by decide +kernel)
set_option maxRecDepth 20000 in
theorem g_law_191_M_value : GoodIn z_law (wsV RL 191 RX16 yX16_value z_M_value) := goodIn_app (goodIn_r _ [516, 517, 518, 111] (by decide +kernel) (by decide +kernel)) gz_M_value
set_option maxRecDepth 20000 in
theorem gz_L_machine_neg : GoodIn z_law z_L_machine_neg := goodIn_ca (goodIn_r _ [522, 523, 524, 525, 2, 526, 284, 285, 286, 236] (by decide +kernel) (by decide +kernel)) (goodIn_sub (fun _ h => List.mem_cons_of_mem _ (List.mem_append_right _ (h))) (by decide +kernel))
set_option maxRecDepth 20000 in
theorem g_law_192_L_machine_neg : GoodIn z_law (va_wsS RL 192 yL_machine z_L_machine_neg) := goodIn_app (goodIn_r _ [520, 521, 146] (by decide +kernel) (by decide +kernel)) gz_L_machine_neg
set_option maxRecDepth 20000 in
theorem gz_M_machine_neg : GoodIn z_law z_M_machine_neg := goodIn_r _ [530, 179, 622, 623, 624, 625, 626, 627, 628, 629, 630, 631, 632, 633, 634, 635, 636, 637, 638, 639, 640, 641, 642, 643, 644, 645] (by decide +kernel) (by decide +kernel)
set_option maxRecDepth 20000 in
theorem g_law_194_M_machine_neg : GoodIn z_law (wsV RL 194 RX16 yX16_machine z_M_machine_neg) := goodIn_app (goodIn_r _ [527, 528, 529, 111] (by decide +kernel) (by decide +kernel)) gz_M_machine_neg
set_option maxRecDepth 20000 in
theorem gz_L_machine_big : GoodIn z_law z_L_machine_big := goodIn_ca (goodIn_r _ [522, 523, 524, 525, 2, 526, 284, 285, 286, 236] (by decide +kernel) (by decide +kernel)) (goodIn_sub (fun _ h => List.mem_cons_of_mem _ (List.mem_append_right _ (h))) (by decide +kernel))
set_option maxRecDepth 20000 in
theorem g_law_192_L_machine_big : GoodIn z_law (va_wsS RL 192 yL_machine z_L_machine_big) := goodIn_app (goodIn_r _ [520, 521, 146] (by decide +kernel) (by decide +kernel)) gz_L_machine_big
set_option maxRecDepth 20000 in
theorem gz_M_machine_big : GoodIn z_law z_M_machine_big := goodIn_r _ [530, 179, 622, 623, 624, 625, 626, 627, 628, 629, 630, 631, 632, 633, 634, 635, 636, 637, 638, 639, 640, 641, 642, 643, 644, 645] (by decide +kernel) (by decide +kernel)
set_option maxRecDepth 20000 in
theorem g_law_194_M_machine_big : GoodIn z_law (wsV RL 194 RX16 yX16_machine z_M_machine_big) := goodIn_app (goodIn_r _ [527, 528, 529, 111] (by decide +kernel) (by decide +kernel)) gz_M_machine_big
set_option maxRecDepth 20000 in
theorem gz_L_machine_ok : GoodIn z_law z_L_machine_ok := goodIn_ca (goodIn_r _ [522, 523, 524, 525, 2, 526, 406, 407, 408, 409, 28, 260, 261, 286, 236, 553, 554, 555, 556, 557, 558, 559, 560, 561, 562, 563] (by decide +kernel) (by decide +kernel)) (goodIn_sub (fun _ h => List.mem_cons_of_mem _ (List.mem_append_left _ (List.mem_append_right _ (h)))) (by decide +kernel))
set_option maxRecDepth 20000 in
theorem g_law_192_L_machine_ok : GoodIn z_law (va_wsS RL 192 yL_machine z_L_machine_ok) := goodIn_app (goodIn_r _ [520, 521, 146] (by decide +kernel) (by decide +kernel)) gz_L_machine_ok
set_option maxRecDepth 20000 in
theorem gz_M_machine_ok : GoodIn z_law z_M_machine_ok := goodIn_r _ [530, 410, 411, 412, 111, 413, 394, 179, 622, 623, 624, 625, 626, 627, 628, 629, 630, 631, 632, 633, 634, 635, 636, 637, 638, 639, 640, 641, 642, 643, 644, 645] (by decide +kernel) (by decide +kernel)
set_option maxRecDepth 20000 in
theorem g_law_194_M_machine_ok : GoodIn z_law (wsV RL 194 RX16 yX16_machine z_M_machine_ok) := goodIn_app (goodIn_r _ [527, 528, 529, 111] (by decide +kernel) (by decide +kernel)) gz_M_machine_ok
set_option maxRecDepth 20000 in
theorem gz_L_stateAnew : GoodIn z_law z_L_stateAnew := goodIn_ca (goodIn_r _ [533, 534, 535, 536, 2, 537, 406, 407, 408, 409, 28, 260, 261, 236, 553, 554, 555, 556, 557, 558, 559, 560, 561, 562, 563] (by decide +kernel) (by decide +kernel)) (goodIn_sub (fun _ h => List.mem_cons_of_mem _ (List.mem_append_left _ (List.mem_append_right _ (h)))) (by decide +kernel))
set_option maxRecDepth 20000 in
theorem g_law_195_L_stateAnew : GoodIn z_law (va_wsS RL 195 yL_stateAnew z_L_stateAnew) := goodIn_app (goodIn_r _ [531, 532, 146] (by decide +kernel) (by decide +kernel)) gz_L_stateAnew
set_option maxRecDepth 20000 in
theorem gz_M_stateAnew : GoodIn z_law z_M_stateAnew := goodIn_r _ [541, 410, 411, 412, 111, 413, 394, 179, 622, 623, 624, 625, 626, 627, 628, 629, 630, 631, 632, 633, 634, 635, 636, 637, 638, 639, 640, 641, 642, 643, 644, 645] (by decide +kernel) (by decide +kernel)
set_option maxRecDepth 20000 in
theorem g_law_197_M_stateAnew : GoodIn z_law (wsV RL 197 RX16 yX16_stateAnew z_M_stateAnew) := goodIn_app (goodIn_r _ [538, 539, 540, 111] (by decide +kernel) (by decide +kernel)) gz_M_stateAnew
set_option maxRecDepth 20000 in
theorem gz_L_valueAnew : GoodIn z_law z_L_valueAnew := goodIn_ca (goodIn_r _ [544, 545, 546, 547, 2, 548, 406, 407, 408, 409, 28, 260, 261, 236, 553, 554, 555, 556, 557, 558, 559, 560, 561, 562, 563] (by decide +kernel) (by decide +kernel)) (goodIn_sub (fun _ h => List.mem_cons_of_mem _ (List.mem_append_left _ (List.mem_append_right _ (h)))) (by decide +kernel))
set_option maxRecDepth 20000 in
theorem g_law_198_L_valueAnew : GoodIn z_law (va_wsS RL 198 yL_valueAnew z_L_valueAnew) := goodIn_app (goodIn_r _ [542, 543, 146] (by decide +kernel) (by decide +kernel)) gz_L_valueAnew
set_option maxRecDepth 20000 in
theorem gz_M_valueAnew : GoodIn z_law z_M_valueAnew := goodIn_r _ [552, 410, 411, 412, 111, 413, 394, 179, 622, 623, 624, 625, 626, 627, 628, 629, 630, 631, 632, 633, 634, 635, 636, 637, 638, 639, 640, 641, 642, 643, 644, 645] (by decide +kernel) (by decide +kernel)
set_option maxRecDepth 20000 in
theorem g_law_200_M_valueAnew : GoodIn z_law (wsV RL 200 RX16 yX16_valueAnew z_M_valueAnew) := goodIn_app (goodIn_r _ [549, 550, 551, 111] (by decide +kernel) (by decide +kernel)) gz_M_valueAnew
set_option maxHeartbeats 4000000 in
set_option maxRecDepth 100000 in
/-- the loop's head, where the script is read: the law's end -/
theorem lc_back {p : Program} {l : Launch} {e : Env} {s : State} {m : MethodId} {below : List Frame} {meth : Method} {c : Code} {b L : Nat} {xs : Nat → Int32} (C0 : lw_At p s m meth c b L xs) {A : Nat → Prop} (hAA : A = fun q : Nat => s.heap.size ≤ q) {H : Heap} {locs : List Loc} (hS : va_S A s.heap H locs) {ls : Array Slot} {i : Int32} (hl : lv_has ls 8 [(0, .ref b), (4, .int i)]) (hi : Int32.ofNat L - 3 < i) {cells slots : Nat} (hc : cells ≤ 600002) (hs : slots ≤ 7302232) : W p l e room_1 s m #[Value.ref b] below meth c H locs cells slots (lw_Z below #[Value.ref b] s) (F0 m 23 ls []) := by
  obtain ⟨hx, hb, hr, hml, hown, hts0, hX, hbl, hlocks, hgv⟩ := id C0
  have hbA : ¬ A b := by rw [hAA]; exact Nat.not_le.mpr hbl
  refine lv_iload hx hb dL_law_23 (lv_at hl 1 rfl) ?_
  refine lv_aload_n hx hb dL_law_25 rfl (lv_at hl 0 rfl) ?_
  refine va_slen hx hb hX hbl hbA hS dL_law_26 ?_
  refine lv_iconst (v := 3) hx hb dL_law_27 (by decide) ?_
  refine lv_isub hx hb dL_law_28 ?_
  refine lv_icmp_gt (tgt := 1575) hx hb dL_law_29 (by decide) (fun c9 => ?_) (fun c9 => absurd hi c9)
  refine lv_iconst (v := 1) hx hb dL_law_1575 (by decide) ?_
  refine va_forget (fun q hq => by have h := hS.2.2 q hq; rw [hAA] at h; exact h) ?_
  refine W.widen (k := 600002) (n := 7302232) hc hs ?_
  exact lw_ret hx hb hr hlocks dL_law_1576
set_option maxHeartbeats 4000000 in
set_option maxRecDepth 100000 in
/-- behind a case: i grows by 3, and the script is read -/
theorem lc_next {p : Program} {l : Launch} {e : Env} {s : State} {m : MethodId} {below : List Frame} {meth : Method} {c : Code} {b : Nat} {xs : Nat → Int32} (C0 : lw_At p s m meth c b 3 xs) {A : Nat → Prop} (hAA : A = fun q : Nat => s.heap.size ≤ q) {H : Heap} {locs : List Loc} (hS : va_S A s.heap H locs) {ls : Array Slot} (hl : lv_has ls 8 [(0, .ref b), (4, .int 0)]) {cells slots : Nat} (hc : cells ≤ 600002) (hs : slots ≤ 7302232) : W p l e room_1 s m #[Value.ref b] below meth c H locs cells slots (lw_Z below #[Value.ref b] s) (F0 m 1569 ls []) := by
  obtain ⟨hx, hb, hr, hml, hown, hts0, hX, hbl, hlocks, hgv⟩ := id C0
  refine lv_iinc (v := 3) (lv' := [(4, .int 3), (0, .ref b)]) hx hb dL_law_1569 hl (k := 1) rfl (by decide) (by decide) rfl (fun ls hl => ?_)
  refine lv_goto (tgt := 23) hx hb dL_law_1572 (by decide) ?_
  exact lc_back C0 hAA hS (lv_sub hl [1, 0] rfl) (by decide) hc hs
