set_option maxRecDepth 20000 in
theorem ggL_make_X7_make : GoodIn wsL_make wsX7_make := goodIn_ca (goodIn_ca (goodIn_ca (goodIn_ca (goodIn_r _ [8, 9, 10, 11, 7, 12, 13, 14, 15, 16, 17, 18, 19, 20, 21, 22, 23, 24, 25, 26, 27, 28, 29, 30, 31, 32, 33, 34, 35, 36, 37, 38, 39, 40, 41, 42, 43, 44, 45, 46, 47, 48, 49, 50, 51, 52, 53, 54, 55, 56, 57, 58, 59, 60, 61, 62, 63, 64, 65, 66, 67, 68, 69, 70, 71, 72, 73, 74, 75, 76, 77, 78, 79, 80, 81, 82, 83, 84, 85, 86, 87, 88, 89, 90, 91, 92, 93, 94, 95, 96, 97, 98, 99, 100, 101, 102, 103, 104, 105, 106, 107, 108, 109, 110, 111, 112, 113, 114, 115, 116, 117, 118, 119, 120, 121, 122, 123, 124, 125, 126, 127, 128, 129, 130, 131, 132, 133, 134, 135, 136, 137, 138, 139, 140, 141, 142, 143, 144, 145, 146, 147, 148, 149, 150, 151, 152, 153, 154, 155, 156, 157, 158, 159, 160, 161, 162, 163, 164, 165, 166, 167, 168, 169, 170, 171, 172, 173, 174, 175, 176, 177, 178, 179, 180, 181, 182, 183, 184, 185, 186, 187, 188, 189, 190, 191, 192, 193, 194, 195, 196, 197, 198, 199, 200, 201, 202, 203, 204, 205, 206, 207, 208, 209, 210, 211, 212, 213, 214, 215, 216, 217, 218, 219, 220, 221, 222, 223, 224, 225, 226, 227, 228, 229, 230, 231, 232, 233, 234, 235, 236, 237, 238, 239, 240, 241, 242, 243, 244, 245, 246, 247, 248, 249, 250, 251, 252, 253, 254, 255, 256, 257, 258, 259, 260, 261, 262, 263, 264, 265, 266, 267, 268, 269, 270, 271, 272, 273, 274, 275, 276, 277, 278, 279, 280, 281, 282, 283, 284, 285, 286, 287, 288, 289, 290, 291, 292, 293, 294, 295] (by decide +kernel) (by decide +kernel)) (goodIn_sub (fun _ h => List.mem_cons_of_mem _ (List.mem_append_left _ (List.mem_append_left _ (List.mem_append_right _ h)))) (by decide +kernel))) (goodIn_sub (fun _ h => List.mem_cons_of_mem _ (List.mem_append_left _ (List.mem_append_right _ h))) (by decide +kernel))) (goodIn_sub (fun _ h => List.mem_cons_of_mem _ (List.mem_append_right _ h)) (by decide +kernel))) (goodIn_sub (fun _ h => List.mem_cons_of_mem _ (List.mem_append_left _ (List.mem_append_left _ (List.mem_append_left _ (List.mem_append_right _ h))))) (by decide +kernel))
set_option maxRecDepth 20000 in
theorem gL_make_X7_make : GoodIn wsL_make (wsV RL 7 RX7 yX7_make wsX7_make) := goodIn_app (goodIn_of _ (by decide +kernel)) ggL_make_X7_make
theorem dL_make_0 : decode cL_make 0 = .ok (.aload 4, 2) := by decide +kernel
theorem dL_make_2 : decode cL_make 2 = .ok (.iconst 0, 1) := by decide +kernel
theorem dL_make_3 : decode cL_make 3 = .ok (.aload_n 0, 1) := by decide +kernel
theorem dL_make_4 : decode cL_make 4 = .ok (.iload_n 1, 1) := by decide +kernel
theorem dL_make_5 : decode cL_make 5 = .ok (.iload_n 2, 1) := by decide +kernel
theorem dL_make_6 : decode cL_make 6 = .ok (.iload_n 3, 1) := by decide +kernel
theorem dL_make_7 : decode cL_make 7 = .ok (.invokevirtual 7, 3) := by decide +kernel
theorem dL_make_10 : decode cL_make 10 = .ok (.i2l, 1) := by decide +kernel
theorem dL_make_11 : decode cL_make 11 = .ok (.lastore, 1) := by decide +kernel
theorem dL_make_12 : decode cL_make 12 = .ok (.goto 15, 3) := by decide +kernel
theorem dL_make_15 : decode cL_make 15 = .ok (.astore 5, 2) := by decide +kernel
theorem dL_make_17 : decode cL_make 17 = .ok (.iconst 1, 1) := by decide +kernel
theorem dL_make_18 : decode cL_make 18 = .ok (.ireturn, 1) := by decide +kernel
theorem dL_make_19 : decode cL_make 19 = .ok (.astore 5, 2) := by decide +kernel
theorem dL_make_21 : decode cL_make 21 = .ok (.iconst 2, 1) := by decide +kernel
theorem dL_make_22 : decode cL_make 22 = .ok (.ireturn, 1) := by decide +kernel
theorem dL_make_23 : decode cL_make 23 = .ok (.astore 5, 2) := by decide +kernel
theorem dL_make_25 : decode cL_make 25 = .ok (.iconst 3, 1) := by decide +kernel
theorem dL_make_26 : decode cL_make 26 = .ok (.ireturn, 1) := by decide +kernel
theorem dL_make_27 : decode cL_make 27 = .ok (.iconst 0, 1) := by decide +kernel
theorem dL_make_28 : decode cL_make 28 = .ok (.ireturn, 1) := by decide +kernel
set_option maxRecDepth 20000 in
theorem ggL_blank_X7_blank : GoodIn wsL_blank wsX7_blank := goodIn_ca (goodIn_ca (goodIn_ca (goodIn_ca (goodIn_r _ [7, 8, 9, 10, 6, 11, 12, 13, 14, 15, 16, 17, 18, 19, 20, 21, 22, 23, 24, 25, 26, 27, 28, 29, 30, 31, 32, 33, 34, 35, 36, 37, 38, 39, 40, 41, 42, 43, 44, 45, 46, 47, 48, 49, 50, 51, 52, 53, 54, 55, 56, 57, 58, 59, 60, 61, 62, 63, 64, 65, 66, 67, 68, 69, 70, 71, 72, 73, 74, 75, 76, 77, 78, 79, 80, 81, 82, 83, 84, 85, 86, 87, 88, 89, 90, 91, 92, 93, 94, 95, 96, 97, 98, 99, 100, 101, 102, 103, 104, 105, 106, 107, 108, 109, 110, 111, 112, 113, 114, 115, 116, 117, 118, 119, 120, 121, 122, 123, 124, 125, 126, 127, 128, 129, 130, 131, 132, 133, 134, 135, 136, 137, 138, 139, 140, 141, 142, 143, 144, 145, 146, 147, 148, 149, 150, 151, 152, 153, 154, 155, 156, 157, 158, 159, 160, 161, 162, 163, 164, 165, 166, 167, 168, 169, 170, 171, 172, 173, 174, 175, 176, 177, 178, 179, 180, 181, 182, 183, 184, 185, 186, 187, 188, 189, 190, 191, 192, 193, 194, 195, 196, 197, 198, 199, 200, 201, 202, 203, 204, 205, 206, 207, 208, 209, 210, 211, 212, 213, 214, 215, 216, 217, 218, 219, 220, 221, 222, 223, 224, 225, 226, 227, 228, 229, 230, 231, 232, 233, 234, 235, 236, 237, 238, 239, 240, 241, 242, 243, 244, 245, 246, 247, 248, 249, 250, 251, 252, 253, 254, 255, 256, 257, 258, 259, 260, 261, 262, 263, 264, 265, 266, 267, 268, 269, 270, 271, 272, 273, 274, 275, 276, 277, 278, 279, 280, 281, 282, 283, 284, 285, 286, 287, 288, 289, 290, 291, 292, 293, 294] (by decide +kernel) (by decide +kernel)) (goodIn_sub (fun _ h => List.mem_cons_of_mem _ (List.mem_append_left _ (List.mem_append_left _ (List.mem_append_right _ h)))) (by decide +kernel))) (goodIn_sub (fun _ h => List.mem_cons_of_mem _ (List.mem_append_left _ (List.mem_append_right _ h))) (by decide +kernel))) (goodIn_sub (fun _ h => List.mem_cons_of_mem _ (List.mem_append_right _ h)) (by decide +kernel))) (goodIn_sub (fun _ h => List.mem_cons_of_mem _ (List.mem_append_left _ (List.mem_append_left _ (List.mem_append_left _ (List.mem_append_right _ h))))) (by decide +kernel))
set_option maxRecDepth 20000 in
theorem gL_blank_X7_blank : GoodIn wsL_blank (wsV RL 19 RX7 yX7_blank wsX7_blank) := goodIn_app (goodIn_of _ (by decide +kernel)) ggL_blank_X7_blank
theorem dL_blank_0 : decode cL_blank 0 = .ok (.aload_n 2, 1) := by decide +kernel
theorem dL_blank_1 : decode cL_blank 1 = .ok (.iconst 0, 1) := by decide +kernel
theorem dL_blank_2 : decode cL_blank 2 = .ok (.aload_n 0, 1) := by decide +kernel
theorem dL_blank_3 : decode cL_blank 3 = .ok (.iload_n 1, 1) := by decide +kernel
theorem dL_blank_4 : decode cL_blank 4 = .ok (.invokevirtual 19, 3) := by decide +kernel
theorem dL_blank_7 : decode cL_blank 7 = .ok (.i2l, 1) := by decide +kernel
theorem dL_blank_8 : decode cL_blank 8 = .ok (.lastore, 1) := by decide +kernel
theorem dL_blank_9 : decode cL_blank 9 = .ok (.goto 9, 3) := by decide +kernel
theorem dL_blank_12 : decode cL_blank 12 = .ok (.astore_n 3, 1) := by decide +kernel
theorem dL_blank_13 : decode cL_blank 13 = .ok (.iconst 1, 1) := by decide +kernel
theorem dL_blank_14 : decode cL_blank 14 = .ok (.ireturn, 1) := by decide +kernel
theorem dL_blank_15 : decode cL_blank 15 = .ok (.astore_n 3, 1) := by decide +kernel
theorem dL_blank_16 : decode cL_blank 16 = .ok (.iconst 2, 1) := by decide +kernel
theorem dL_blank_17 : decode cL_blank 17 = .ok (.ireturn, 1) := by decide +kernel
theorem dL_blank_18 : decode cL_blank 18 = .ok (.iconst 0, 1) := by decide +kernel
theorem dL_blank_19 : decode cL_blank 19 = .ok (.ireturn, 1) := by decide +kernel
set_option maxRecDepth 20000 in
theorem ggL_tell_X7_tell : GoodIn wsL_tell wsX7_tell := goodIn_ca (goodIn_ca (goodIn_ca (goodIn_ca (goodIn_r _ [8, 9, 10, 11, 7, 12, 13, 14, 15, 16, 17, 18, 19, 20, 21, 22, 23, 24, 25, 26, 27, 28, 29, 30, 31, 32, 33, 34, 35, 36, 37, 38, 39, 40, 41, 42, 43, 44, 45, 46, 47, 48, 49, 50, 51, 52, 53, 54, 55, 56, 57, 58, 59, 60, 61, 62, 63, 64, 65, 66, 67, 68, 69, 70, 71, 72, 73, 74, 75, 76, 77, 78, 79, 80, 81, 82, 83, 84, 85, 86, 87, 88, 89, 90, 91, 92, 93, 94, 95, 96, 97, 98, 99, 100, 101, 102, 103, 104, 105, 106, 107, 108, 109, 110, 111, 112, 113, 114, 115, 116, 117, 118, 119, 120, 121, 122, 123, 124, 125, 126, 127, 128, 129, 130, 131, 132, 133, 134, 135, 136, 137, 138, 139, 140, 141, 142, 143, 144, 145, 146, 147, 148, 149, 150, 151, 152, 153, 154, 155, 156, 157, 158, 159, 160, 161, 162, 163, 164, 165, 166, 167, 168, 169, 170, 171, 172, 173, 174, 175, 176, 177, 178, 179, 180, 181, 182, 183, 184, 185, 186, 187, 188, 189, 190, 191, 192, 193, 194, 195, 196, 197, 198, 199, 200, 201, 202, 203, 204, 205, 206, 207, 208, 209, 210, 211, 212, 213, 214, 215, 216, 217, 218, 219, 220, 221, 222, 223, 224, 225, 226, 227, 228, 229, 230, 231, 232, 233, 234, 235, 236, 237, 238, 239, 240, 241, 242, 243, 244, 245, 246, 247, 248, 249, 250, 251, 252, 253, 254, 255, 256, 257, 258, 259, 260, 261, 262, 263, 264, 265, 266, 267, 268, 269, 270, 271, 272, 273, 274, 275, 276, 277, 278, 279, 280, 281, 282, 283, 284, 285, 286, 287, 288, 289, 290, 291, 292, 293, 294, 295] (by decide +kernel) (by decide +kernel)) (goodIn_sub (fun _ h => List.mem_cons_of_mem _ (List.mem_append_left _ (List.mem_append_left _ (List.mem_append_right _ h)))) (by decide +kernel))) (goodIn_sub (fun _ h => List.mem_cons_of_mem _ (List.mem_append_left _ (List.mem_append_right _ h))) (by decide +kernel))) (goodIn_sub (fun _ h => List.mem_cons_of_mem _ (List.mem_append_right _ h)) (by decide +kernel))) (goodIn_sub (fun _ h => List.mem_cons_of_mem _ (List.mem_append_left _ (List.mem_append_left _ (List.mem_append_left _ (List.mem_append_right _ h))))) (by decide +kernel))
set_option maxRecDepth 20000 in
theorem gL_tell_X7_tell : GoodIn wsL_tell (wsV RL 23 RX7 yX7_tell wsX7_tell) := goodIn_app (goodIn_of _ (by decide +kernel)) ggL_tell_X7_tell
theorem dL_tell_0 : decode cL_tell 0 = .ok (.aload 4, 2) := by decide +kernel
theorem dL_tell_2 : decode cL_tell 2 = .ok (.iconst 0, 1) := by decide +kernel
theorem dL_tell_3 : decode cL_tell 3 = .ok (.aload_n 0, 1) := by decide +kernel
theorem dL_tell_4 : decode cL_tell 4 = .ok (.iload_n 1, 1) := by decide +kernel
theorem dL_tell_5 : decode cL_tell 5 = .ok (.iload_n 2, 1) := by decide +kernel
theorem dL_tell_6 : decode cL_tell 6 = .ok (.iload_n 3, 1) := by decide +kernel
theorem dL_tell_7 : decode cL_tell 7 = .ok (.invokevirtual 23, 3) := by decide +kernel
theorem dL_tell_10 : decode cL_tell 10 = .ok (.i2l, 1) := by decide +kernel
theorem dL_tell_11 : decode cL_tell 11 = .ok (.lastore, 1) := by decide +kernel
theorem dL_tell_12 : decode cL_tell 12 = .ok (.goto 15, 3) := by decide +kernel
theorem dL_tell_15 : decode cL_tell 15 = .ok (.astore 5, 2) := by decide +kernel
theorem dL_tell_17 : decode cL_tell 17 = .ok (.iconst 1, 1) := by decide +kernel
theorem dL_tell_18 : decode cL_tell 18 = .ok (.ireturn, 1) := by decide +kernel
theorem dL_tell_19 : decode cL_tell 19 = .ok (.astore 5, 2) := by decide +kernel
theorem dL_tell_21 : decode cL_tell 21 = .ok (.iconst 2, 1) := by decide +kernel
theorem dL_tell_22 : decode cL_tell 22 = .ok (.ireturn, 1) := by decide +kernel
theorem dL_tell_23 : decode cL_tell 23 = .ok (.astore 5, 2) := by decide +kernel
theorem dL_tell_25 : decode cL_tell 25 = .ok (.iconst 3, 1) := by decide +kernel
theorem dL_tell_26 : decode cL_tell 26 = .ok (.ireturn, 1) := by decide +kernel
theorem dL_tell_27 : decode cL_tell 27 = .ok (.iconst 0, 1) := by decide +kernel
theorem dL_tell_28 : decode cL_tell 28 = .ok (.ireturn, 1) := by decide +kernel
set_option maxRecDepth 20000 in
theorem ggL_inspect_X7_inspect : GoodIn wsL_inspect wsX7_inspect := goodIn_ca (goodIn_ca (goodIn_ca (goodIn_ca (goodIn_r _ [7, 8, 9, 10, 6, 11, 12, 13, 14, 15, 16, 17, 18, 19, 20, 21, 22, 23, 24, 25, 26, 27, 28, 29, 30, 31, 32, 33, 34, 35, 36, 37, 38, 39, 40, 41, 42, 43, 44, 45, 46, 47, 48, 49, 50, 51, 52, 53, 54, 55, 56, 57, 58, 59, 60, 61, 62, 63, 64, 65, 66, 67, 68, 69, 70, 71, 72, 73, 74, 75, 76, 77, 78, 79, 80, 81, 82, 83, 84, 85, 86, 87, 88, 89, 90, 91, 92, 93, 94, 95, 96, 97, 98, 99, 100, 101, 102, 103, 104, 105, 106, 107, 108, 109, 110, 111, 112, 113, 114, 115, 116, 117, 118, 119, 120, 121, 122, 123, 124, 125, 126, 127, 128, 129, 130, 131, 132, 133, 134, 135, 136, 137, 138, 139, 140, 141, 142, 143, 144, 145, 146, 147, 148, 149, 150, 151, 152, 153, 154, 155, 156, 157, 158, 159, 160, 161, 162, 163, 164, 165, 166, 167, 168, 169, 170, 171, 172, 173, 174, 175, 176, 177, 178, 179, 180, 181, 182, 183, 184, 185, 186, 187, 188, 189, 190, 191, 192, 193, 194, 195, 196, 197, 198, 199, 200, 201, 202, 203, 204, 205, 206, 207, 208, 209, 210, 211, 212, 213, 214, 215, 216, 217, 218, 219, 220, 221, 222, 223, 224, 225, 226, 227, 228, 229, 230, 231, 232, 233, 234, 235, 236, 237, 238, 239, 240, 241, 242, 243, 244, 245, 246, 247, 248, 249, 250, 251, 252, 253, 254, 255, 256, 257, 258, 259, 260, 261, 262, 263, 264, 265, 266, 267, 268, 269, 270, 271, 272, 273, 274, 275, 276, 277, 278, 279, 280, 281, 282, 283, 284, 285, 286, 287, 288, 289, 290, 291, 292, 293, 294] (by decide +kernel) (by decide +kernel)) (goodIn_sub (fun _ h => List.mem_cons_of_mem _ (List.mem_append_left _ (List.mem_append_left _ (List.mem_append_right _ h)))) (by decide +kernel))) (goodIn_sub (fun _ h => List.mem_cons_of_mem _ (List.mem_append_left _ (List.mem_append_right _ h))) (by decide +kernel))) (goodIn_sub (fun _ h => List.mem_cons_of_mem _ (List.mem_append_right _ h)) (by decide +kernel))) (goodIn_sub (fun _ h => List.mem_cons_of_mem _ (List.mem_append_left _ (List.mem_append_left _ (List.mem_append_left _ (List.mem_append_right _ h))))) (by decide +kernel))
set_option maxRecDepth 20000 in
theorem gL_inspect_X7_inspect : GoodIn wsL_inspect (wsV RL 26 RX7 yX7_inspect wsX7_inspect) := goodIn_app (goodIn_of _ (by decide +kernel)) ggL_inspect_X7_inspect
theorem dL_inspect_0 : decode cL_inspect 0 = .ok (.aload_n 2, 1) := by decide +kernel
theorem dL_inspect_1 : decode cL_inspect 1 = .ok (.iconst 0, 1) := by decide +kernel
theorem dL_inspect_2 : decode cL_inspect 2 = .ok (.aload_n 0, 1) := by decide +kernel
theorem dL_inspect_3 : decode cL_inspect 3 = .ok (.iload_n 1, 1) := by decide +kernel
theorem dL_inspect_4 : decode cL_inspect 4 = .ok (.invokevirtual 26, 3) := by decide +kernel
theorem dL_inspect_7 : decode cL_inspect 7 = .ok (.i2l, 1) := by decide +kernel
theorem dL_inspect_8 : decode cL_inspect 8 = .ok (.lastore, 1) := by decide +kernel
theorem dL_inspect_9 : decode cL_inspect 9 = .ok (.goto 9, 3) := by decide +kernel
theorem dL_inspect_12 : decode cL_inspect 12 = .ok (.astore_n 3, 1) := by decide +kernel
theorem dL_inspect_13 : decode cL_inspect 13 = .ok (.iconst 1, 1) := by decide +kernel
theorem dL_inspect_14 : decode cL_inspect 14 = .ok (.ireturn, 1) := by decide +kernel
theorem dL_inspect_15 : decode cL_inspect 15 = .ok (.astore_n 3, 1) := by decide +kernel
theorem dL_inspect_16 : decode cL_inspect 16 = .ok (.iconst 2, 1) := by decide +kernel
theorem dL_inspect_17 : decode cL_inspect 17 = .ok (.ireturn, 1) := by decide +kernel
theorem dL_inspect_18 : decode cL_inspect 18 = .ok (.iconst 0, 1) := by decide +kernel
theorem dL_inspect_19 : decode cL_inspect 19 = .ok (.ireturn, 1) := by decide +kernel
set_option maxRecDepth 20000 in
theorem ggL_hire_X7_hire : GoodIn wsL_hire wsX7_hire := goodIn_ca (goodIn_ca (goodIn_ca (goodIn_ca (goodIn_r _ [6, 7, 8, 9, 5, 10, 11, 12, 13, 14, 15, 16, 17, 18, 19, 20, 21, 22, 23, 24, 25, 26, 27, 28, 29, 30, 31, 32, 33, 34, 35, 36, 37, 38, 39, 40, 41, 42, 43, 44, 45, 46, 47, 48, 49, 50, 51, 52, 53, 54, 55, 56, 57, 58, 59, 60, 61, 62, 63, 64, 65, 66, 67, 68, 69, 70, 71, 72, 73, 74, 75, 76, 77, 78, 79, 80, 81, 82, 83, 84, 85, 86, 87, 88, 89, 90, 91, 92, 93, 94, 95, 96, 97, 98, 99, 100, 101, 102, 103, 104, 105, 106, 107, 108, 109, 110, 111, 112, 113, 114, 115, 116, 117, 118, 119, 120, 121, 122, 123, 124, 125, 126, 127, 128, 129, 130, 131, 132, 133, 134, 135, 136, 137, 138, 139, 140, 141, 142, 143, 144, 145, 146, 147, 148, 149, 150, 151, 152, 153, 154, 155, 156, 157, 158, 159, 160, 161, 162, 163, 164, 165, 166, 167, 168, 169, 170, 171, 172, 173, 174, 175, 176, 177, 178, 179, 180, 181, 182, 183, 184, 185, 186, 187, 188, 189, 190, 191, 192, 193, 194, 195, 196, 197, 198, 199, 200, 201, 202, 203, 204, 205, 206, 207, 208, 209, 210, 211, 212, 213, 214, 215, 216, 217, 218, 219, 220, 221, 222, 223, 224, 225, 226, 227, 228, 229, 230, 231, 232, 233, 234, 235, 236, 237, 238, 239, 240, 241, 242, 243, 244, 245, 246, 247, 248, 249, 250, 251, 252, 253, 254, 255, 256, 257, 258, 259, 260, 261, 262, 263, 264, 265, 266, 267, 268, 269, 270, 271, 272, 273, 274, 275, 276, 277, 278, 279, 280, 281, 282, 283, 284, 285, 286, 287, 288, 289, 290, 291, 292, 293] (by decide +kernel) (by decide +kernel)) (goodIn_sub (fun _ h => List.mem_cons_of_mem _ (List.mem_append_left _ (List.mem_append_left _ (List.mem_append_right _ h)))) (by decide +kernel))) (goodIn_sub (fun _ h => List.mem_cons_of_mem _ (List.mem_append_left _ (List.mem_append_right _ h))) (by decide +kernel))) (goodIn_sub (fun _ h => List.mem_cons_of_mem _ (List.mem_append_right _ h)) (by decide +kernel))) (goodIn_sub (fun _ h => List.mem_cons_of_mem _ (List.mem_append_left _ (List.mem_append_left _ (List.mem_append_left _ (List.mem_append_right _ h))))) (by decide +kernel))
set_option maxRecDepth 20000 in
theorem gL_hire_X7_hire : GoodIn wsL_hire (wsV RL 29 RX7 yX7_hire wsX7_hire) := goodIn_app (goodIn_of _ (by decide +kernel)) ggL_hire_X7_hire
theorem dL_hire_0 : decode cL_hire 0 = .ok (.aload_n 1, 1) := by decide +kernel
theorem dL_hire_1 : decode cL_hire 1 = .ok (.iconst 0, 1) := by decide +kernel
theorem dL_hire_2 : decode cL_hire 2 = .ok (.aload_n 0, 1) := by decide +kernel
theorem dL_hire_3 : decode cL_hire 3 = .ok (.invokevirtual 29, 3) := by decide +kernel
theorem dL_hire_6 : decode cL_hire 6 = .ok (.i2l, 1) := by decide +kernel
theorem dL_hire_7 : decode cL_hire 7 = .ok (.lastore, 1) := by decide +kernel
theorem dL_hire_8 : decode cL_hire 8 = .ok (.goto 6, 3) := by decide +kernel
theorem dL_hire_11 : decode cL_hire 11 = .ok (.astore_n 2, 1) := by decide +kernel
theorem dL_hire_12 : decode cL_hire 12 = .ok (.iconst 1, 1) := by decide +kernel
theorem dL_hire_13 : decode cL_hire 13 = .ok (.ireturn, 1) := by decide +kernel
theorem dL_hire_14 : decode cL_hire 14 = .ok (.iconst 0, 1) := by decide +kernel
theorem dL_hire_15 : decode cL_hire 15 = .ok (.ireturn, 1) := by decide +kernel
set_option maxRecDepth 20000 in
theorem ggL_leave_X7_leave : GoodIn wsL_leave wsX7_leave := goodIn_ca (goodIn_ca (goodIn_ca (goodIn_ca (goodIn_r _ [6, 7, 8, 9, 5, 10, 11, 12, 13, 14, 15, 16, 17, 18, 19, 20, 21, 22, 23, 24, 25, 26, 27, 28, 29, 30, 31, 32, 33, 34, 35, 36, 37, 38, 39, 40, 41, 42, 43, 44, 45, 46, 47, 48, 49, 50, 51, 52, 53, 54, 55, 56, 57, 58, 59, 60, 61, 62, 63, 64, 65, 66, 67, 68, 69, 70, 71, 72, 73, 74, 75, 76, 77, 78, 79, 80, 81, 82, 83, 84, 85, 86, 87, 88, 89, 90, 91, 92, 93, 94, 95, 96, 97, 98, 99, 100, 101, 102, 103, 104, 105, 106, 107, 108, 109, 110, 111, 112, 113, 114, 115, 116, 117, 118, 119, 120, 121, 122, 123, 124, 125, 126, 127, 128, 129, 130, 131, 132, 133, 134, 135, 136, 137, 138, 139, 140, 141, 142, 143, 144, 145, 146, 147, 148, 149, 150, 151, 152, 153, 154, 155, 156, 157, 158, 159, 160, 161, 162, 163, 164, 165, 166, 167, 168, 169, 170, 171, 172, 173, 174, 175, 176, 177, 178, 179, 180, 181, 182, 183, 184, 185, 186, 187, 188, 189, 190, 191, 192, 193, 194, 195, 196, 197, 198, 199, 200, 201, 202, 203, 204, 205, 206, 207, 208, 209, 210, 211, 212, 213, 214, 215, 216, 217, 218, 219, 220, 221, 222, 223, 224, 225, 226, 227, 228, 229, 230, 231, 232, 233, 234, 235, 236, 237, 238, 239, 240, 241, 242, 243, 244, 245, 246, 247, 248, 249, 250, 251, 252, 253, 254, 255, 256, 257, 258, 259, 260, 261, 262, 263, 264, 265, 266, 267, 268, 269, 270, 271, 272, 273, 274, 275, 276, 277, 278, 279, 280, 281, 282, 283, 284, 285, 286, 287, 288, 289, 290, 291, 292, 293] (by decide +kernel) (by decide +kernel)) (goodIn_sub (fun _ h => List.mem_cons_of_mem _ (List.mem_append_left _ (List.mem_append_left _ (List.mem_append_right _ h)))) (by decide +kernel))) (goodIn_sub (fun _ h => List.mem_cons_of_mem _ (List.mem_append_left _ (List.mem_append_right _ h))) (by decide +kernel))) (goodIn_sub (fun _ h => List.mem_cons_of_mem _ (List.mem_append_right _ h)) (by decide +kernel))) (goodIn_sub (fun _ h => List.mem_cons_of_mem _ (List.mem_append_left _ (List.mem_append_left _ (List.mem_append_left _ (List.mem_append_right _ h))))) (by decide +kernel))
set_option maxRecDepth 20000 in
theorem gL_leave_X7_leave : GoodIn wsL_leave (wsV RL 33 RX7 yX7_leave wsX7_leave) := goodIn_app (goodIn_of _ (by decide +kernel)) ggL_leave_X7_leave
theorem dL_leave_0 : decode cL_leave 0 = .ok (.aload_n 2, 1) := by decide +kernel
theorem dL_leave_1 : decode cL_leave 1 = .ok (.iconst 0, 1) := by decide +kernel
theorem dL_leave_2 : decode cL_leave 2 = .ok (.aload_n 0, 1) := by decide +kernel
theorem dL_leave_3 : decode cL_leave 3 = .ok (.iload_n 1, 1) := by decide +kernel
theorem dL_leave_4 : decode cL_leave 4 = .ok (.invokevirtual 33, 3) := by decide +kernel
theorem dL_leave_7 : decode cL_leave 7 = .ok (.i2l, 1) := by decide +kernel
theorem dL_leave_8 : decode cL_leave 8 = .ok (.lastore, 1) := by decide +kernel
theorem dL_leave_9 : decode cL_leave 9 = .ok (.goto 6, 3) := by decide +kernel
theorem dL_leave_12 : decode cL_leave 12 = .ok (.astore_n 3, 1) := by decide +kernel
theorem dL_leave_13 : decode cL_leave 13 = .ok (.iconst 1, 1) := by decide +kernel
theorem dL_leave_14 : decode cL_leave 14 = .ok (.ireturn, 1) := by decide +kernel
theorem dL_leave_15 : decode cL_leave 15 = .ok (.iconst 0, 1) := by decide +kernel
theorem dL_leave_16 : decode cL_leave 16 = .ok (.ireturn, 1) := by decide +kernel
set_option maxRecDepth 20000 in
theorem ggL_sell_X7_sell : GoodIn wsL_sell wsX7_sell := goodIn_ca (goodIn_ca (goodIn_ca (goodIn_ca (goodIn_r _ [6, 7, 8, 9, 5, 10, 11, 12, 13, 14, 15, 16, 17, 18, 19, 20, 21, 22, 23, 24, 25, 26, 27, 28, 29, 30, 31, 32, 33, 34, 35, 36, 37, 38, 39, 40, 41, 42, 43, 44, 45, 46, 47, 48, 49, 50, 51, 52, 53, 54, 55, 56, 57, 58, 59, 60, 61, 62, 63, 64, 65, 66, 67, 68, 69, 70, 71, 72, 73, 74, 75, 76, 77, 78, 79, 80, 81, 82, 83, 84, 85, 86, 87, 88, 89, 90, 91, 92, 93, 94, 95, 96, 97, 98, 99, 100, 101, 102, 103, 104, 105, 106, 107, 108, 109, 110, 111, 112, 113, 114, 115, 116, 117, 118, 119, 120, 121, 122, 123, 124, 125, 126, 127, 128, 129, 130, 131, 132, 133, 134, 135, 136, 137, 138, 139, 140, 141, 142, 143, 144, 145, 146, 147, 148, 149, 150, 151, 152, 153, 154, 155, 156, 157, 158, 159, 160, 161, 162, 163, 164, 165, 166, 167, 168, 169, 170, 171, 172, 173, 174, 175, 176, 177, 178, 179, 180, 181, 182, 183, 184, 185, 186, 187, 188, 189, 190, 191, 192, 193, 194, 195, 196, 197, 198, 199, 200, 201, 202, 203, 204, 205, 206, 207, 208, 209, 210, 211, 212, 213, 214, 215, 216, 217, 218, 219, 220, 221, 222, 223, 224, 225, 226, 227, 228, 229, 230, 231, 232, 233, 234, 235, 236, 237, 238, 239, 240, 241, 242, 243, 244, 245, 246, 247, 248, 249, 250, 251, 252, 253, 254, 255, 256, 257, 258, 259, 260, 261, 262, 263, 264, 265, 266, 267, 268, 269, 270, 271, 272, 273, 274, 275, 276, 277, 278, 279, 280, 281, 282, 283, 284, 285, 286, 287, 288, 289, 290, 291, 292, 293] (by decide +kernel) (by decide +kernel)) (goodIn_sub (fun _ h => List.mem_cons_of_mem _ (List.mem_append_left _ (List.mem_append_left _ (List.mem_append_right _ h)))) (by decide +kernel))) (goodIn_sub (fun _ h => List.mem_cons_of_mem _ (List.mem_append_left _ (List.mem_append_right _ h))) (by decide +kernel))) (goodIn_sub (fun _ h => List.mem_cons_of_mem _ (List.mem_append_right _ h)) (by decide +kernel))) (goodIn_sub (fun _ h => List.mem_cons_of_mem _ (List.mem_append_left _ (List.mem_append_left _ (List.mem_append_left _ (List.mem_append_right _ h))))) (by decide +kernel))
set_option maxRecDepth 20000 in
theorem gL_sell_X7_sell : GoodIn wsL_sell (wsV RL 36 RX7 yX7_sell wsX7_sell) := goodIn_app (goodIn_of _ (by decide +kernel)) ggL_sell_X7_sell
theorem dL_sell_0 : decode cL_sell 0 = .ok (.aload_n 2, 1) := by decide +kernel
theorem dL_sell_1 : decode cL_sell 1 = .ok (.iconst 0, 1) := by decide +kernel
theorem dL_sell_2 : decode cL_sell 2 = .ok (.aload_n 0, 1) := by decide +kernel
theorem dL_sell_3 : decode cL_sell 3 = .ok (.iload_n 1, 1) := by decide +kernel
theorem dL_sell_4 : decode cL_sell 4 = .ok (.invokevirtual 36, 3) := by decide +kernel
theorem dL_sell_7 : decode cL_sell 7 = .ok (.i2l, 1) := by decide +kernel
theorem dL_sell_8 : decode cL_sell 8 = .ok (.lastore, 1) := by decide +kernel
theorem dL_sell_9 : decode cL_sell 9 = .ok (.goto 6, 3) := by decide +kernel
theorem dL_sell_12 : decode cL_sell 12 = .ok (.astore_n 3, 1) := by decide +kernel
theorem dL_sell_13 : decode cL_sell 13 = .ok (.iconst 1, 1) := by decide +kernel
theorem dL_sell_14 : decode cL_sell 14 = .ok (.ireturn, 1) := by decide +kernel
theorem dL_sell_15 : decode cL_sell 15 = .ok (.iconst 0, 1) := by decide +kernel
theorem dL_sell_16 : decode cL_sell 16 = .ok (.ireturn, 1) := by decide +kernel
set_option maxRecDepth 20000 in
theorem ggL_repair_X7_repair : GoodIn wsL_repair wsX7_repair := goodIn_ca (goodIn_ca (goodIn_ca (goodIn_ca (goodIn_r _ [7, 8, 9, 10, 6, 11, 12, 13, 14, 15, 16, 17, 18, 19, 20, 21, 22, 23, 24, 25, 26, 27, 28, 29, 30, 31, 32, 33, 34, 35, 36, 37, 38, 39, 40, 41, 42, 43, 44, 45, 46, 47, 48, 49, 50, 51, 52, 53, 54, 55, 56, 57, 58, 59, 60, 61, 62, 63, 64, 65, 66, 67, 68, 69, 70, 71, 72, 73, 74, 75, 76, 77, 78, 79, 80, 81, 82, 83, 84, 85, 86, 87, 88, 89, 90, 91, 92, 93, 94, 95, 96, 97, 98, 99, 100, 101, 102, 103, 104, 105, 106, 107, 108, 109, 110, 111, 112, 113, 114, 115, 116, 117, 118, 119, 120, 121, 122, 123, 124, 125, 126, 127, 128, 129, 130, 131, 132, 133, 134, 135, 136, 137, 138, 139, 140, 141, 142, 143, 144, 145, 146, 147, 148, 149, 150, 151, 152, 153, 154, 155, 156, 157, 158, 159, 160, 161, 162, 163, 164, 165, 166, 167, 168, 169, 170, 171, 172, 173, 174, 175, 176, 177, 178, 179, 180, 181, 182, 183, 184, 185, 186, 187, 188, 189, 190, 191, 192, 193, 194, 195, 196, 197, 198, 199, 200, 201, 202, 203, 204, 205, 206, 207, 208, 209, 210, 211, 212, 213, 214, 215, 216, 217, 218, 219, 220, 221, 222, 223, 224, 225, 226, 227, 228, 229, 230, 231, 232, 233, 234, 235, 236, 237, 238, 239, 240, 241, 242, 243, 244, 245, 246, 247, 248, 249, 250, 251, 252, 253, 254, 255, 256, 257, 258, 259, 260, 261, 262, 263, 264, 265, 266, 267, 268, 269, 270, 271, 272, 273, 274, 275, 276, 277, 278, 279, 280, 281, 282, 283, 284, 285, 286, 287, 288, 289, 290, 291, 292, 293, 294] (by decide +kernel) (by decide +kernel)) (goodIn_sub (fun _ h => List.mem_cons_of_mem _ (List.mem_append_left _ (List.mem_append_left _ (List.mem_append_right _ h)))) (by decide +kernel))) (goodIn_sub (fun _ h => List.mem_cons_of_mem _ (List.mem_append_left _ (List.mem_append_right _ h))) (by decide +kernel))) (goodIn_sub (fun _ h => List.mem_cons_of_mem _ (List.mem_append_right _ h)) (by decide +kernel))) (goodIn_sub (fun _ h => List.mem_cons_of_mem _ (List.mem_append_left _ (List.mem_append_left _ (List.mem_append_left _ (List.mem_append_right _ h))))) (by decide +kernel))
set_option maxRecDepth 20000 in
theorem gL_repair_X7_repair : GoodIn wsL_repair (wsV RL 39 RX7 yX7_repair wsX7_repair) := goodIn_app (goodIn_of _ (by decide +kernel)) ggL_repair_X7_repair
theorem dL_repair_0 : decode cL_repair 0 = .ok (.aload_n 2, 1) := by decide +kernel
theorem dL_repair_1 : decode cL_repair 1 = .ok (.iconst 0, 1) := by decide +kernel
theorem dL_repair_2 : decode cL_repair 2 = .ok (.aload_n 0, 1) := by decide +kernel
theorem dL_repair_3 : decode cL_repair 3 = .ok (.iload_n 1, 1) := by decide +kernel
theorem dL_repair_4 : decode cL_repair 4 = .ok (.invokevirtual 39, 3) := by decide +kernel
theorem dL_repair_7 : decode cL_repair 7 = .ok (.i2l, 1) := by decide +kernel
theorem dL_repair_8 : decode cL_repair 8 = .ok (.lastore, 1) := by decide +kernel
theorem dL_repair_9 : decode cL_repair 9 = .ok (.goto 9, 3) := by decide +kernel
theorem dL_repair_12 : decode cL_repair 12 = .ok (.astore_n 3, 1) := by decide +kernel
theorem dL_repair_13 : decode cL_repair 13 = .ok (.iconst 1, 1) := by decide +kernel
theorem dL_repair_14 : decode cL_repair 14 = .ok (.ireturn, 1) := by decide +kernel
theorem dL_repair_15 : decode cL_repair 15 = .ok (.astore_n 3, 1) := by decide +kernel
theorem dL_repair_16 : decode cL_repair 16 = .ok (.iconst 2, 1) := by decide +kernel
theorem dL_repair_17 : decode cL_repair 17 = .ok (.ireturn, 1) := by decide +kernel
theorem dL_repair_18 : decode cL_repair 18 = .ok (.iconst 0, 1) := by decide +kernel
theorem dL_repair_19 : decode cL_repair 19 = .ok (.ireturn, 1) := by decide +kernel
set_option maxRecDepth 20000 in
theorem ggL_beltOf_X7_beltOf : GoodIn wsL_beltOf wsX7_beltOf := goodIn_ca (goodIn_ca (goodIn_ca (goodIn_r _ [7, 8, 9, 10, 11, 12, 13, 14, 15, 16, 17, 18, 19, 6, 20, 21, 22, 23, 24, 25, 26, 27, 28, 29, 30, 31, 32, 33, 34, 35, 36, 37, 38, 39, 40, 41, 42, 43, 44, 45, 46, 47, 48, 49, 50, 51, 52, 53, 54, 55, 56, 57, 58, 59, 60, 61, 62, 63, 64, 65, 66, 67, 68, 69, 70, 71, 72, 73, 74, 75, 76, 77, 78] (by decide +kernel) (by decide +kernel)) (goodIn_sub (fun _ h => List.mem_cons_of_mem _ (List.mem_append_left _ (List.mem_append_right _ h))) (by decide +kernel))) (goodIn_sub (fun _ h => List.mem_cons_of_mem _ (List.mem_append_right _ h)) (by decide +kernel))) (goodIn_sub (fun _ h => List.mem_cons_of_mem _ (List.mem_append_left _ (List.mem_append_left _ (List.mem_append_right _ h)))) (by decide +kernel))
set_option maxRecDepth 20000 in
theorem gL_beltOf_X7_beltOf : GoodIn wsL_beltOf (wsV RL 42 RX7 yX7_beltOf wsX7_beltOf) := goodIn_app (goodIn_of _ (by decide +kernel)) ggL_beltOf_X7_beltOf
theorem dL_beltOf_0 : decode cL_beltOf 0 = .ok (.aload_n 3, 1) := by decide +kernel
theorem dL_beltOf_1 : decode cL_beltOf 1 = .ok (.iconst 0, 1) := by decide +kernel
theorem dL_beltOf_2 : decode cL_beltOf 2 = .ok (.aload_n 0, 1) := by decide +kernel
theorem dL_beltOf_3 : decode cL_beltOf 3 = .ok (.iload_n 1, 1) := by decide +kernel
theorem dL_beltOf_4 : decode cL_beltOf 4 = .ok (.iload_n 2, 1) := by decide +kernel
theorem dL_beltOf_5 : decode cL_beltOf 5 = .ok (.invokevirtual 42, 3) := by decide +kernel
theorem dL_beltOf_8 : decode cL_beltOf 8 = .ok (.i2l, 1) := by decide +kernel
theorem dL_beltOf_9 : decode cL_beltOf 9 = .ok (.lastore, 1) := by decide +kernel
theorem dL_beltOf_10 : decode cL_beltOf 10 = .ok (.goto 11, 3) := by decide +kernel
theorem dL_beltOf_13 : decode cL_beltOf 13 = .ok (.astore 4, 2) := by decide +kernel
theorem dL_beltOf_15 : decode cL_beltOf 15 = .ok (.iconst 1, 1) := by decide +kernel
theorem dL_beltOf_16 : decode cL_beltOf 16 = .ok (.ireturn, 1) := by decide +kernel
theorem dL_beltOf_17 : decode cL_beltOf 17 = .ok (.astore 4, 2) := by decide +kernel
theorem dL_beltOf_19 : decode cL_beltOf 19 = .ok (.iconst 2, 1) := by decide +kernel
theorem dL_beltOf_20 : decode cL_beltOf 20 = .ok (.ireturn, 1) := by decide +kernel
theorem dL_beltOf_21 : decode cL_beltOf 21 = .ok (.iconst 0, 1) := by decide +kernel
theorem dL_beltOf_22 : decode cL_beltOf 22 = .ok (.ireturn, 1) := by decide +kernel
set_option maxRecDepth 20000 in
theorem ggL_carrier_X7_carrier : GoodIn wsL_carrier wsX7_carrier := goodIn_ca (goodIn_ca (goodIn_ca (goodIn_r _ [7, 8, 9, 10, 11, 12, 13, 6, 14, 15, 16, 17, 18, 19, 20, 21, 22, 23, 24, 25, 26, 27, 28, 29, 30, 31, 32, 33, 34, 35, 36, 37, 38, 39, 40, 41, 42, 43, 44, 45, 46, 47, 48, 49, 50, 51, 52, 53, 54, 55, 56, 57, 58, 59, 60, 61, 62, 63, 64, 65, 66, 67, 68, 69, 70] (by decide +kernel) (by decide +kernel)) (goodIn_sub (fun _ h => List.mem_cons_of_mem _ (List.mem_append_left _ (List.mem_append_right _ h))) (by decide +kernel))) (goodIn_sub (fun _ h => List.mem_cons_of_mem _ (List.mem_append_right _ h)) (by decide +kernel))) (goodIn_sub (fun _ h => List.mem_cons_of_mem _ (List.mem_append_left _ (List.mem_append_left _ (List.mem_append_right _ h)))) (by decide +kernel))
set_option maxRecDepth 20000 in
theorem gL_carrier_X7_carrier : GoodIn wsL_carrier (wsV RL 46 RX7 yX7_carrier wsX7_carrier) := goodIn_app (goodIn_of _ (by decide +kernel)) ggL_carrier_X7_carrier
theorem dL_carrier_0 : decode cL_carrier 0 = .ok (.aload 4, 2) := by decide +kernel
theorem dL_carrier_2 : decode cL_carrier 2 = .ok (.iconst 0, 1) := by decide +kernel
theorem dL_carrier_3 : decode cL_carrier 3 = .ok (.aload_n 0, 1) := by decide +kernel
theorem dL_carrier_4 : decode cL_carrier 4 = .ok (.iload_n 1, 1) := by decide +kernel
theorem dL_carrier_5 : decode cL_carrier 5 = .ok (.iload_n 2, 1) := by decide +kernel
theorem dL_carrier_6 : decode cL_carrier 6 = .ok (.iload_n 3, 1) := by decide +kernel
theorem dL_carrier_7 : decode cL_carrier 7 = .ok (.invokevirtual 46, 3) := by decide +kernel
theorem dL_carrier_10 : decode cL_carrier 10 = .ok (.i2l, 1) := by decide +kernel
theorem dL_carrier_11 : decode cL_carrier 11 = .ok (.lastore, 1) := by decide +kernel
theorem dL_carrier_12 : decode cL_carrier 12 = .ok (.goto 11, 3) := by decide +kernel
theorem dL_carrier_15 : decode cL_carrier 15 = .ok (.astore 5, 2) := by decide +kernel
theorem dL_carrier_17 : decode cL_carrier 17 = .ok (.iconst 1, 1) := by decide +kernel
theorem dL_carrier_18 : decode cL_carrier 18 = .ok (.ireturn, 1) := by decide +kernel
theorem dL_carrier_19 : decode cL_carrier 19 = .ok (.astore 5, 2) := by decide +kernel
theorem dL_carrier_21 : decode cL_carrier 21 = .ok (.iconst 2, 1) := by decide +kernel
theorem dL_carrier_22 : decode cL_carrier 22 = .ok (.ireturn, 1) := by decide +kernel
theorem dL_carrier_23 : decode cL_carrier 23 = .ok (.iconst 0, 1) := by decide +kernel
theorem dL_carrier_24 : decode cL_carrier 24 = .ok (.ireturn, 1) := by decide +kernel
set_option maxRecDepth 20000 in
theorem ggL_yawns_X7_yawns : GoodIn wsL_yawns wsX7_yawns := goodIn_ca (goodIn_ca (goodIn_r _ [6, 7, 8, 9, 10, 11, 12, 13, 14, 15, 16, 17, 18, 19, 20, 21, 22, 23, 24, 25, 26, 27, 28, 29, 30, 31, 32, 33, 34, 35, 36, 37, 38, 39, 40, 41, 42, 43, 44, 45, 46] (by decide +kernel) (by decide +kernel)) (goodIn_sub (fun _ h => List.mem_cons_of_mem _ (List.mem_append_right _ h)) (by decide +kernel))) (goodIn_sub (fun _ h => List.mem_cons_of_mem _ (List.mem_append_left _ (List.mem_append_right _ h))) (by decide +kernel))
set_option maxRecDepth 20000 in
theorem gL_yawns_X7_yawns : GoodIn wsL_yawns (wsV RL 49 RX7 yX7_yawns wsX7_yawns) := goodIn_app (goodIn_of _ (by decide +kernel)) ggL_yawns_X7_yawns
theorem dL_yawns_0 : decode cL_yawns 0 = .ok (.aload_n 2, 1) := by decide +kernel
theorem dL_yawns_1 : decode cL_yawns 1 = .ok (.iconst 0, 1) := by decide +kernel
theorem dL_yawns_2 : decode cL_yawns 2 = .ok (.aload_n 0, 1) := by decide +kernel
theorem dL_yawns_3 : decode cL_yawns 3 = .ok (.iload_n 1, 1) := by decide +kernel
theorem dL_yawns_4 : decode cL_yawns 4 = .ok (.invokevirtual 49, 3) := by decide +kernel
theorem dL_yawns_7 : decode cL_yawns 7 = .ok (.i2l, 1) := by decide +kernel
theorem dL_yawns_8 : decode cL_yawns 8 = .ok (.lastore, 1) := by decide +kernel
theorem dL_yawns_9 : decode cL_yawns 9 = .ok (.goto 6, 3) := by decide +kernel
theorem dL_yawns_12 : decode cL_yawns 12 = .ok (.astore_n 3, 1) := by decide +kernel
theorem dL_yawns_13 : decode cL_yawns 13 = .ok (.iconst 1, 1) := by decide +kernel
theorem dL_yawns_14 : decode cL_yawns 14 = .ok (.ireturn, 1) := by decide +kernel
theorem dL_yawns_15 : decode cL_yawns 15 = .ok (.iconst 0, 1) := by decide +kernel
theorem dL_yawns_16 : decode cL_yawns 16 = .ok (.ireturn, 1) := by decide +kernel
set_option maxRecDepth 20000 in
theorem ggL_passes_X7_passes : GoodIn wsL_passes wsX7_passes := goodIn_ca (goodIn_ca (goodIn_ca (goodIn_r _ [7, 8, 9, 10, 11, 12, 13, 14, 15, 6, 16, 17, 18, 19, 20, 21, 22, 23, 24, 25, 26, 27, 28, 29, 30, 31, 32, 33, 34, 35, 36, 37, 38, 39, 40, 41, 42, 43, 44, 45, 46, 47, 48, 49, 50, 51, 52, 53, 54, 55, 56, 57, 58, 59, 60, 61, 62, 63, 64, 65, 66, 67, 68, 69, 70, 71, 72, 73, 74, 75, 76, 77, 78, 79, 80, 81, 82] (by decide +kernel) (by decide +kernel)) (goodIn_sub (fun _ h => List.mem_cons_of_mem _ (List.mem_append_left _ (List.mem_append_right _ h))) (by decide +kernel))) (goodIn_sub (fun _ h => List.mem_cons_of_mem _ (List.mem_append_right _ h)) (by decide +kernel))) (goodIn_sub (fun _ h => List.mem_cons_of_mem _ (List.mem_append_left _ (List.mem_append_left _ (List.mem_append_right _ h)))) (by decide +kernel))
set_option maxRecDepth 20000 in
theorem gL_passes_X7_passes : GoodIn wsL_passes (wsV RL 52 RX7 yX7_passes wsX7_passes) := goodIn_app (goodIn_of _ (by decide +kernel)) ggL_passes_X7_passes
theorem dL_passes_0 : decode cL_passes 0 = .ok (.aload 4, 2) := by decide +kernel
theorem dL_passes_2 : decode cL_passes 2 = .ok (.iconst 0, 1) := by decide +kernel
theorem dL_passes_3 : decode cL_passes 3 = .ok (.aload_n 0, 1) := by decide +kernel
theorem dL_passes_4 : decode cL_passes 4 = .ok (.iload_n 1, 1) := by decide +kernel
theorem dL_passes_5 : decode cL_passes 5 = .ok (.iload_n 2, 1) := by decide +kernel
theorem dL_passes_6 : decode cL_passes 6 = .ok (.iload_n 3, 1) := by decide +kernel
theorem dL_passes_7 : decode cL_passes 7 = .ok (.invokevirtual 52, 3) := by decide +kernel
theorem dL_passes_10 : decode cL_passes 10 = .ok (.ifCond .eq 7, 3) := by decide +kernel
theorem dL_passes_13 : decode cL_passes 13 = .ok (.lconst 1, 1) := by decide +kernel
theorem dL_passes_14 : decode cL_passes 14 = .ok (.goto 4, 3) := by decide +kernel
theorem dL_passes_17 : decode cL_passes 17 = .ok (.lconst 0, 1) := by decide +kernel
theorem dL_passes_18 : decode cL_passes 18 = .ok (.lastore, 1) := by decide +kernel
theorem dL_passes_19 : decode cL_passes 19 = .ok (.goto 11, 3) := by decide +kernel
theorem dL_passes_22 : decode cL_passes 22 = .ok (.astore 5, 2) := by decide +kernel
theorem dL_passes_24 : decode cL_passes 24 = .ok (.iconst 1, 1) := by decide +kernel
theorem dL_passes_25 : decode cL_passes 25 = .ok (.ireturn, 1) := by decide +kernel
theorem dL_passes_26 : decode cL_passes 26 = .ok (.astore 5, 2) := by decide +kernel
theorem dL_passes_28 : decode cL_passes 28 = .ok (.iconst 2, 1) := by decide +kernel
theorem dL_passes_29 : decode cL_passes 29 = .ok (.ireturn, 1) := by decide +kernel
theorem dL_passes_30 : decode cL_passes 30 = .ok (.iconst 0, 1) := by decide +kernel
theorem dL_passes_31 : decode cL_passes 31 = .ok (.ireturn, 1) := by decide +kernel
set_option maxRecDepth 20000 in
theorem ggL_wouldFail_X7_wouldFail : GoodIn wsL_wouldFail wsX7_wouldFail := goodIn_ca (goodIn_ca (goodIn_ca (goodIn_r _ [7, 8, 9, 10, 6, 11, 12, 13, 14, 15, 16, 17, 18, 19, 20, 21, 22, 23, 24, 25, 26, 27, 28, 29, 30, 31, 32, 33, 34, 35, 36, 37, 38, 39, 40, 41, 42, 43, 44, 45, 46, 47, 48, 49, 50, 51, 52, 53, 54, 55, 56, 57, 58, 59, 60, 61, 62, 63, 64, 65, 66, 67, 68, 69, 70, 71, 72, 73, 74, 75, 76, 77, 78, 79, 80, 81, 82, 83, 84, 85, 86, 87, 88, 89, 90, 91, 92, 93, 94, 95, 96, 97, 98, 99, 100, 101, 102, 103, 104, 105, 106, 107, 108, 109, 110, 111, 112, 113, 114, 115, 116, 117, 118, 119, 120, 121, 122, 123, 124, 125, 126, 127, 128, 129, 130, 131, 132, 133, 134, 135, 136, 137, 138, 139, 140, 141, 142, 143, 144, 145, 146, 147, 148, 149, 150, 151, 152, 153, 154, 155, 156, 157, 158, 159, 160, 161, 162, 163, 164, 165, 166, 167, 168, 169, 170, 171, 172, 173, 174, 175, 176, 177, 178, 179, 180, 181, 182, 183, 184, 185, 186, 187, 188, 189, 190, 191, 192, 193, 194, 195, 196, 197, 198, 199, 200, 201, 202, 203, 204, 205, 206] (by decide +kernel) (by decide +kernel)) (goodIn_sub (fun _ h => List.mem_cons_of_mem _ (List.mem_append_left _ (List.mem_append_right _ h))) (by decide +kernel))) (goodIn_sub (fun _ h => List.mem_cons_of_mem _ (List.mem_append_right _ h)) (by decide +kernel))) (goodIn_sub (fun _ h => List.mem_cons_of_mem _ (List.mem_append_left _ (List.mem_append_left _ (List.mem_append_right _ h)))) (by decide +kernel))
set_option maxRecDepth 20000 in
theorem gL_wouldFail_X7_wouldFail : GoodIn wsL_wouldFail (wsV RL 56 RX7 yX7_wouldFail wsX7_wouldFail) := goodIn_app (goodIn_of _ (by decide +kernel)) ggL_wouldFail_X7_wouldFail
theorem dL_wouldFail_0 : decode cL_wouldFail 0 = .ok (.aload 4, 2) := by decide +kernel
theorem dL_wouldFail_2 : decode cL_wouldFail 2 = .ok (.iconst 0, 1) := by decide +kernel
theorem dL_wouldFail_3 : decode cL_wouldFail 3 = .ok (.aload_n 0, 1) := by decide +kernel
theorem dL_wouldFail_4 : decode cL_wouldFail 4 = .ok (.iload_n 1, 1) := by decide +kernel
theorem dL_wouldFail_5 : decode cL_wouldFail 5 = .ok (.iload_n 2, 1) := by decide +kernel
theorem dL_wouldFail_6 : decode cL_wouldFail 6 = .ok (.iload_n 3, 1) := by decide +kernel
theorem dL_wouldFail_7 : decode cL_wouldFail 7 = .ok (.invokevirtual 56, 3) := by decide +kernel
theorem dL_wouldFail_10 : decode cL_wouldFail 10 = .ok (.i2l, 1) := by decide +kernel
theorem dL_wouldFail_11 : decode cL_wouldFail 11 = .ok (.lastore, 1) := by decide +kernel
theorem dL_wouldFail_12 : decode cL_wouldFail 12 = .ok (.goto 11, 3) := by decide +kernel
theorem dL_wouldFail_15 : decode cL_wouldFail 15 = .ok (.astore 5, 2) := by decide +kernel
theorem dL_wouldFail_17 : decode cL_wouldFail 17 = .ok (.iconst 1, 1) := by decide +kernel
theorem dL_wouldFail_18 : decode cL_wouldFail 18 = .ok (.ireturn, 1) := by decide +kernel
theorem dL_wouldFail_19 : decode cL_wouldFail 19 = .ok (.astore 5, 2) := by decide +kernel
theorem dL_wouldFail_21 : decode cL_wouldFail 21 = .ok (.iconst 2, 1) := by decide +kernel
theorem dL_wouldFail_22 : decode cL_wouldFail 22 = .ok (.ireturn, 1) := by decide +kernel
theorem dL_wouldFail_23 : decode cL_wouldFail 23 = .ok (.iconst 0, 1) := by decide +kernel
theorem dL_wouldFail_24 : decode cL_wouldFail 24 = .ok (.ireturn, 1) := by decide +kernel
set_option maxRecDepth 20000 in
theorem ggL_wouldStamp_X7_wouldStamp : GoodIn wsL_wouldStamp wsX7_wouldStamp := goodIn_ca (goodIn_ca (goodIn_ca (goodIn_r _ [7, 8, 9, 10, 11, 12, 13, 14, 15, 16, 6, 17, 18, 19, 20, 21, 22, 23, 24, 25, 26, 27, 28, 29, 30, 31, 32, 33, 34, 35, 36, 37, 38, 39, 40, 41, 42, 43, 44, 45, 46, 47, 48, 49, 50, 51, 52, 53, 54, 55, 56, 57, 58, 59, 60, 61, 62, 63, 64, 65, 66, 67, 68, 69, 70, 71, 72, 73, 74, 75, 76, 77, 78, 79, 80, 81, 82, 83, 84, 85, 86, 87, 88, 89, 90, 91, 92, 93, 94, 95, 96, 97, 98, 99, 100, 101, 102, 103, 104, 105, 106, 107, 108, 109, 110, 111, 112, 113, 114, 115, 116, 117, 118, 119, 120, 121, 122, 123, 124, 125, 126, 127, 128, 129, 130, 131, 132, 133, 134, 135, 136, 137, 138, 139, 140, 141, 142, 143, 144, 145, 146, 147, 148, 149, 150, 151, 152, 153, 154, 155, 156, 157, 158, 159, 160, 161, 162, 163, 164, 165, 166, 167, 168, 169, 170, 171, 172, 173, 174, 175, 176, 177, 178, 179, 180, 181, 182, 183, 184, 185, 186, 187, 188] (by decide +kernel) (by decide +kernel)) (goodIn_sub (fun _ h => List.mem_cons_of_mem _ (List.mem_append_left _ (List.mem_append_right _ h))) (by decide +kernel))) (goodIn_sub (fun _ h => List.mem_cons_of_mem _ (List.mem_append_right _ h)) (by decide +kernel))) (goodIn_sub (fun _ h => List.mem_cons_of_mem _ (List.mem_append_left _ (List.mem_append_left _ (List.mem_append_right _ h)))) (by decide +kernel))
set_option maxRecDepth 20000 in
theorem gL_wouldStamp_X7_wouldStamp : GoodIn wsL_wouldStamp (wsV RL 62 RX7 yX7_wouldStamp wsX7_wouldStamp) := goodIn_app (goodIn_of _ (by decide +kernel)) ggL_wouldStamp_X7_wouldStamp
theorem dL_wouldStamp_0 : decode cL_wouldStamp 0 = .ok (.aload_n 2, 1) := by decide +kernel
theorem dL_wouldStamp_1 : decode cL_wouldStamp 1 = .ok (.iconst 0, 1) := by decide +kernel
theorem dL_wouldStamp_2 : decode cL_wouldStamp 2 = .ok (.aload_n 0, 1) := by decide +kernel
theorem dL_wouldStamp_3 : decode cL_wouldStamp 3 = .ok (.iload_n 1, 1) := by decide +kernel
theorem dL_wouldStamp_4 : decode cL_wouldStamp 4 = .ok (.invokevirtual 62, 3) := by decide +kernel
theorem dL_wouldStamp_7 : decode cL_wouldStamp 7 = .ok (.i2l, 1) := by decide +kernel
theorem dL_wouldStamp_8 : decode cL_wouldStamp 8 = .ok (.lastore, 1) := by decide +kernel
theorem dL_wouldStamp_9 : decode cL_wouldStamp 9 = .ok (.goto 9, 3) := by decide +kernel
theorem dL_wouldStamp_12 : decode cL_wouldStamp 12 = .ok (.astore_n 3, 1) := by decide +kernel
theorem dL_wouldStamp_13 : decode cL_wouldStamp 13 = .ok (.iconst 1, 1) := by decide +kernel
theorem dL_wouldStamp_14 : decode cL_wouldStamp 14 = .ok (.ireturn, 1) := by decide +kernel
theorem dL_wouldStamp_15 : decode cL_wouldStamp 15 = .ok (.astore_n 3, 1) := by decide +kernel
theorem dL_wouldStamp_16 : decode cL_wouldStamp 16 = .ok (.iconst 2, 1) := by decide +kernel
theorem dL_wouldStamp_17 : decode cL_wouldStamp 17 = .ok (.ireturn, 1) := by decide +kernel
theorem dL_wouldStamp_18 : decode cL_wouldStamp 18 = .ok (.iconst 0, 1) := by decide +kernel
theorem dL_wouldStamp_19 : decode cL_wouldStamp 19 = .ok (.ireturn, 1) := by decide +kernel
set_option maxRecDepth 20000 in
theorem ggL_next_X7_next : GoodIn wsL_next wsX7_next := goodIn_ca (goodIn_ca (goodIn_r _ [6, 7, 8, 9, 10, 11, 5, 12, 13, 14, 15, 16, 17, 18, 19, 20, 21, 22, 23, 24, 25, 26, 27, 28, 29, 30, 31, 32, 33, 34, 35, 36, 37, 38, 39, 40, 41, 42, 43, 44, 45, 46, 47, 48, 49, 50] (by decide +kernel) (by decide +kernel)) (goodIn_sub (fun _ h => List.mem_cons_of_mem _ (List.mem_append_right _ h)) (by decide +kernel))) (goodIn_sub (fun _ h => List.mem_cons_of_mem _ (List.mem_append_left _ (List.mem_append_right _ h))) (by decide +kernel))
set_option maxRecDepth 20000 in
theorem gL_next_X7_next : GoodIn wsL_next (wsV RL 65 RX7 yX7_next wsX7_next) := goodIn_app (goodIn_of _ (by decide +kernel)) ggL_next_X7_next
theorem dL_next_0 : decode cL_next 0 = .ok (.aload_n 1, 1) := by decide +kernel
theorem dL_next_1 : decode cL_next 1 = .ok (.iconst 0, 1) := by decide +kernel
theorem dL_next_2 : decode cL_next 2 = .ok (.aload_n 0, 1) := by decide +kernel
theorem dL_next_3 : decode cL_next 3 = .ok (.invokevirtual 65, 3) := by decide +kernel
theorem dL_next_6 : decode cL_next 6 = .ok (.i2l, 1) := by decide +kernel
theorem dL_next_7 : decode cL_next 7 = .ok (.lastore, 1) := by decide +kernel
theorem dL_next_8 : decode cL_next 8 = .ok (.goto 6, 3) := by decide +kernel
theorem dL_next_11 : decode cL_next 11 = .ok (.astore_n 2, 1) := by decide +kernel
theorem dL_next_12 : decode cL_next 12 = .ok (.iconst 1, 1) := by decide +kernel
theorem dL_next_13 : decode cL_next 13 = .ok (.ireturn, 1) := by decide +kernel
theorem dL_next_14 : decode cL_next 14 = .ok (.iconst 0, 1) := by decide +kernel
theorem dL_next_15 : decode cL_next 15 = .ok (.ireturn, 1) := by decide +kernel
set_option maxRecDepth 20000 in
theorem ggL_leastGrey_X7_leastGrey : GoodIn wsL_leastGrey wsX7_leastGrey := goodIn_ca (goodIn_ca (goodIn_r _ [6, 7, 8, 9, 10, 11, 12, 13, 14, 15, 16, 17, 5, 18, 19, 20, 21, 22, 23, 24, 25, 26, 27, 28, 29, 30, 31, 32, 33, 34, 35, 36, 37, 38, 39, 40, 41, 42, 43, 44, 45, 46, 47, 48, 49, 50, 51, 52, 53, 54, 55, 56, 57, 58, 59, 60, 61, 62, 63, 64, 65, 66, 67, 68] (by decide +kernel) (by decide +kernel)) (goodIn_sub (fun _ h => List.mem_cons_of_mem _ (List.mem_append_right _ h)) (by decide +kernel))) (goodIn_sub (fun _ h => List.mem_cons_of_mem _ (List.mem_append_left _ (List.mem_append_right _ h))) (by decide +kernel))
set_option maxRecDepth 20000 in
theorem gL_leastGrey_X7_leastGrey : GoodIn wsL_leastGrey (wsV RL 68 RX7 yX7_leastGrey wsX7_leastGrey) := goodIn_app (goodIn_of _ (by decide +kernel)) ggL_leastGrey_X7_leastGrey
theorem dL_leastGrey_0 : decode cL_leastGrey 0 = .ok (.aload_n 2, 1) := by decide +kernel
theorem dL_leastGrey_1 : decode cL_leastGrey 1 = .ok (.iconst 0, 1) := by decide +kernel
theorem dL_leastGrey_2 : decode cL_leastGrey 2 = .ok (.aload_n 0, 1) := by decide +kernel
theorem dL_leastGrey_3 : decode cL_leastGrey 3 = .ok (.iload_n 1, 1) := by decide +kernel
theorem dL_leastGrey_4 : decode cL_leastGrey 4 = .ok (.invokevirtual 68, 3) := by decide +kernel
theorem dL_leastGrey_7 : decode cL_leastGrey 7 = .ok (.i2l, 1) := by decide +kernel
theorem dL_leastGrey_8 : decode cL_leastGrey 8 = .ok (.lastore, 1) := by decide +kernel
theorem dL_leastGrey_9 : decode cL_leastGrey 9 = .ok (.goto 6, 3) := by decide +kernel
theorem dL_leastGrey_12 : decode cL_leastGrey 12 = .ok (.astore_n 3, 1) := by decide +kernel
theorem dL_leastGrey_13 : decode cL_leastGrey 13 = .ok (.iconst 1, 1) := by decide +kernel
theorem dL_leastGrey_14 : decode cL_leastGrey 14 = .ok (.ireturn, 1) := by decide +kernel
theorem dL_leastGrey_15 : decode cL_leastGrey 15 = .ok (.iconst 0, 1) := by decide +kernel
theorem dL_leastGrey_16 : decode cL_leastGrey 16 = .ok (.ireturn, 1) := by decide +kernel
set_option maxRecDepth 20000 in
theorem ggL_rejectOf_X7_rejectOf : GoodIn wsL_rejectOf wsX7_rejectOf := goodIn_ca (goodIn_ca (goodIn_ca (goodIn_r _ [7, 8, 9, 10, 11, 12, 6, 13, 14, 15, 16, 17, 18, 19, 20, 21, 22, 23, 24, 25, 26, 27, 28, 29, 30, 31, 32, 33, 34, 35, 36, 37, 38, 39, 40, 41, 42, 43, 44, 45, 46, 47, 48, 49, 50, 51, 52, 53, 54, 55, 56, 57, 58, 59, 60, 61, 62, 63, 64, 65, 66, 67, 68, 69, 70, 71, 72, 73, 74, 75, 76, 77, 78, 79, 80, 81, 82, 83, 84] (by decide +kernel) (by decide +kernel)) (goodIn_sub (fun _ h => List.mem_cons_of_mem _ (List.mem_append_left _ (List.mem_append_right _ h))) (by decide +kernel))) (goodIn_sub (fun _ h => List.mem_cons_of_mem _ (List.mem_append_right _ h)) (by decide +kernel))) (goodIn_sub (fun _ h => List.mem_cons_of_mem _ (List.mem_append_left _ (List.mem_append_left _ (List.mem_append_right _ h)))) (by decide +kernel))
set_option maxRecDepth 20000 in
theorem gL_rejectOf_X7_rejectOf : GoodIn wsL_rejectOf (wsV RL 71 RX7 yX7_rejectOf wsX7_rejectOf) := goodIn_app (goodIn_of _ (by decide +kernel)) ggL_rejectOf_X7_rejectOf
theorem dL_rejectOf_0 : decode cL_rejectOf 0 = .ok (.aload_n 3, 1) := by decide +kernel
theorem dL_rejectOf_1 : decode cL_rejectOf 1 = .ok (.iconst 0, 1) := by decide +kernel
theorem dL_rejectOf_2 : decode cL_rejectOf 2 = .ok (.aload_n 0, 1) := by decide +kernel
theorem dL_rejectOf_3 : decode cL_rejectOf 3 = .ok (.iload_n 1, 1) := by decide +kernel
theorem dL_rejectOf_4 : decode cL_rejectOf 4 = .ok (.iload_n 2, 1) := by decide +kernel
theorem dL_rejectOf_5 : decode cL_rejectOf 5 = .ok (.invokevirtual 71, 3) := by decide +kernel
theorem dL_rejectOf_8 : decode cL_rejectOf 8 = .ok (.i2l, 1) := by decide +kernel
theorem dL_rejectOf_9 : decode cL_rejectOf 9 = .ok (.lastore, 1) := by decide +kernel
theorem dL_rejectOf_10 : decode cL_rejectOf 10 = .ok (.goto 11, 3) := by decide +kernel
theorem dL_rejectOf_13 : decode cL_rejectOf 13 = .ok (.astore 4, 2) := by decide +kernel
theorem dL_rejectOf_15 : decode cL_rejectOf 15 = .ok (.iconst 1, 1) := by decide +kernel
theorem dL_rejectOf_16 : decode cL_rejectOf 16 = .ok (.ireturn, 1) := by decide +kernel
theorem dL_rejectOf_17 : decode cL_rejectOf 17 = .ok (.astore 4, 2) := by decide +kernel
theorem dL_rejectOf_19 : decode cL_rejectOf 19 = .ok (.iconst 2, 1) := by decide +kernel
theorem dL_rejectOf_20 : decode cL_rejectOf 20 = .ok (.ireturn, 1) := by decide +kernel
theorem dL_rejectOf_21 : decode cL_rejectOf 21 = .ok (.iconst 0, 1) := by decide +kernel
theorem dL_rejectOf_22 : decode cL_rejectOf 22 = .ok (.ireturn, 1) := by decide +kernel
set_option maxRecDepth 20000 in
theorem ggL_best_X7_best : GoodIn wsL_best wsX7_best := goodIn_ca (goodIn_ca (goodIn_r _ [6, 7, 8, 9, 10, 11, 12, 13, 14, 15, 16, 17, 18, 19, 20, 21, 22, 23, 24, 25, 26, 27, 28, 29, 30, 31, 32, 33, 34, 35, 36, 37, 38, 39, 40, 41, 42, 43, 44, 45, 46, 47, 48, 49, 50, 51, 52, 53, 54, 55, 56, 57, 58, 59, 60, 61, 62] (by decide +kernel) (by decide +kernel)) (goodIn_sub (fun _ h => List.mem_cons_of_mem _ (List.mem_append_right _ h)) (by decide +kernel))) (goodIn_sub (fun _ h => List.mem_cons_of_mem _ (List.mem_append_left _ (List.mem_append_right _ h))) (by decide +kernel))
set_option maxRecDepth 20000 in
theorem gL_best_X7_best : GoodIn wsL_best (wsV RL 74 RX7 yX7_best wsX7_best) := goodIn_app (goodIn_of _ (by decide +kernel)) ggL_best_X7_best
theorem dL_best_0 : decode cL_best 0 = .ok (.aload_n 1, 1) := by decide +kernel
theorem dL_best_1 : decode cL_best 1 = .ok (.iconst 0, 1) := by decide +kernel
theorem dL_best_2 : decode cL_best 2 = .ok (.aload_n 0, 1) := by decide +kernel
theorem dL_best_3 : decode cL_best 3 = .ok (.invokevirtual 74, 3) := by decide +kernel
theorem dL_best_6 : decode cL_best 6 = .ok (.i2l, 1) := by decide +kernel
theorem dL_best_7 : decode cL_best 7 = .ok (.lastore, 1) := by decide +kernel
theorem dL_best_8 : decode cL_best 8 = .ok (.goto 6, 3) := by decide +kernel
theorem dL_best_11 : decode cL_best 11 = .ok (.astore_n 2, 1) := by decide +kernel
theorem dL_best_12 : decode cL_best 12 = .ok (.iconst 1, 1) := by decide +kernel
theorem dL_best_13 : decode cL_best 13 = .ok (.ireturn, 1) := by decide +kernel
theorem dL_best_14 : decode cL_best 14 = .ok (.iconst 0, 1) := by decide +kernel
theorem dL_best_15 : decode cL_best 15 = .ok (.ireturn, 1) := by decide +kernel
set_option maxRecDepth 20000 in
theorem ggL_wouldMend_X7_wouldMend : GoodIn wsL_wouldMend wsX7_wouldMend := goodIn_ca (goodIn_ca (goodIn_r _ [6, 7, 8, 9, 10, 11, 5, 12, 13, 14, 15, 16, 17, 18, 19, 20, 21, 22, 23, 24, 25, 26, 27, 28, 29, 30, 31, 32, 33, 34, 35, 36, 37, 38, 39, 40, 41, 42, 43, 44, 45, 46, 47, 48, 49, 50, 51, 52, 53, 54, 55, 56, 57, 58, 59, 60, 61, 62, 63, 64, 65, 66, 67, 68, 69, 70, 71, 72, 73, 74, 75, 76, 77, 78, 79, 80, 81, 82, 83, 84, 85, 86, 87, 88, 89] (by decide +kernel) (by decide +kernel)) (goodIn_sub (fun _ h => List.mem_cons_of_mem _ (List.mem_append_right _ h)) (by decide +kernel))) (goodIn_sub (fun _ h => List.mem_cons_of_mem _ (List.mem_append_left _ (List.mem_append_right _ h))) (by decide +kernel))
set_option maxRecDepth 20000 in
theorem gL_wouldMend_X7_wouldMend : GoodIn wsL_wouldMend (wsV RL 77 RX7 yX7_wouldMend wsX7_wouldMend) := goodIn_app (goodIn_of _ (by decide +kernel)) ggL_wouldMend_X7_wouldMend
theorem dL_wouldMend_0 : decode cL_wouldMend 0 = .ok (.aload_n 2, 1) := by decide +kernel
theorem dL_wouldMend_1 : decode cL_wouldMend 1 = .ok (.iconst 0, 1) := by decide +kernel
theorem dL_wouldMend_2 : decode cL_wouldMend 2 = .ok (.aload_n 0, 1) := by decide +kernel
theorem dL_wouldMend_3 : decode cL_wouldMend 3 = .ok (.iload_n 1, 1) := by decide +kernel
theorem dL_wouldMend_4 : decode cL_wouldMend 4 = .ok (.invokevirtual 77, 3) := by decide +kernel
theorem dL_wouldMend_7 : decode cL_wouldMend 7 = .ok (.ifCond .eq 7, 3) := by decide +kernel
theorem dL_wouldMend_10 : decode cL_wouldMend 10 = .ok (.lconst 1, 1) := by decide +kernel
theorem dL_wouldMend_11 : decode cL_wouldMend 11 = .ok (.goto 4, 3) := by decide +kernel
theorem dL_wouldMend_14 : decode cL_wouldMend 14 = .ok (.lconst 0, 1) := by decide +kernel
theorem dL_wouldMend_15 : decode cL_wouldMend 15 = .ok (.lastore, 1) := by decide +kernel
theorem dL_wouldMend_16 : decode cL_wouldMend 16 = .ok (.goto 6, 3) := by decide +kernel
theorem dL_wouldMend_19 : decode cL_wouldMend 19 = .ok (.astore_n 3, 1) := by decide +kernel
theorem dL_wouldMend_20 : decode cL_wouldMend 20 = .ok (.iconst 1, 1) := by decide +kernel
theorem dL_wouldMend_21 : decode cL_wouldMend 21 = .ok (.ireturn, 1) := by decide +kernel
theorem dL_wouldMend_22 : decode cL_wouldMend 22 = .ok (.iconst 0, 1) := by decide +kernel
theorem dL_wouldMend_23 : decode cL_wouldMend 23 = .ok (.ireturn, 1) := by decide +kernel
set_option maxRecDepth 20000 in
theorem ggL_fresh_X7_fresh : GoodIn wsL_fresh wsX7_fresh := goodIn_ca (goodIn_ca (goodIn_r _ [6, 7, 8, 9, 10, 11, 12, 13, 14, 15, 16, 17, 18, 19, 20, 21, 22, 23, 24, 25, 26, 27, 28, 29, 30, 31, 32, 33, 34, 35, 36, 37, 38, 39, 40, 41, 42, 43, 44, 45, 46, 47, 48, 49] (by decide +kernel) (by decide +kernel)) (goodIn_sub (fun _ h => List.mem_cons_of_mem _ (List.mem_append_right _ h)) (by decide +kernel))) (goodIn_sub (fun _ h => List.mem_cons_of_mem _ (List.mem_append_left _ (List.mem_append_right _ h))) (by decide +kernel))
set_option maxRecDepth 20000 in
theorem gL_fresh_X7_fresh : GoodIn wsL_fresh (wsV RL 81 RX7 yX7_fresh wsX7_fresh) := goodIn_app (goodIn_of _ (by decide +kernel)) ggL_fresh_X7_fresh
theorem dL_fresh_0 : decode cL_fresh 0 = .ok (.aload_n 2, 1) := by decide +kernel
theorem dL_fresh_1 : decode cL_fresh 1 = .ok (.iconst 0, 1) := by decide +kernel
theorem dL_fresh_2 : decode cL_fresh 2 = .ok (.aload_n 0, 1) := by decide +kernel
theorem dL_fresh_3 : decode cL_fresh 3 = .ok (.iload_n 1, 1) := by decide +kernel
theorem dL_fresh_4 : decode cL_fresh 4 = .ok (.invokevirtual 81, 3) := by decide +kernel
theorem dL_fresh_7 : decode cL_fresh 7 = .ok (.i2l, 1) := by decide +kernel
theorem dL_fresh_8 : decode cL_fresh 8 = .ok (.lastore, 1) := by decide +kernel
theorem dL_fresh_9 : decode cL_fresh 9 = .ok (.goto 6, 3) := by decide +kernel
theorem dL_fresh_12 : decode cL_fresh 12 = .ok (.astore_n 3, 1) := by decide +kernel
theorem dL_fresh_13 : decode cL_fresh 13 = .ok (.iconst 1, 1) := by decide +kernel
theorem dL_fresh_14 : decode cL_fresh 14 = .ok (.ireturn, 1) := by decide +kernel
theorem dL_fresh_15 : decode cL_fresh 15 = .ok (.iconst 0, 1) := by decide +kernel
theorem dL_fresh_16 : decode cL_fresh 16 = .ok (.ireturn, 1) := by decide +kernel
set_option maxRecDepth 20000 in
theorem ggL_greyest_X7_greyest : GoodIn wsL_greyest wsX7_greyest := goodIn_ca (goodIn_ca (goodIn_r _ [6, 7, 8, 9, 10, 11, 5, 12, 13, 14, 15, 16, 17, 18, 19, 20, 21, 22, 23, 24, 25, 26, 27, 28, 29, 30, 31, 32, 33, 34, 35, 36, 37, 38, 39, 40, 41, 42, 43, 44, 45, 46, 47, 48, 49, 50, 51, 52, 53, 54, 55, 56, 57, 58, 59, 60, 61, 62, 63, 64, 65, 66, 67, 68, 69, 70, 71, 72, 73, 74, 75, 76] (by decide +kernel) (by decide +kernel)) (goodIn_sub (fun _ h => List.mem_cons_of_mem _ (List.mem_append_right _ h)) (by decide +kernel))) (goodIn_sub (fun _ h => List.mem_cons_of_mem _ (List.mem_append_left _ (List.mem_append_right _ h))) (by decide +kernel))
set_option maxRecDepth 20000 in
theorem gL_greyest_X7_greyest : GoodIn wsL_greyest (wsV RL 84 RX7 yX7_greyest wsX7_greyest) := goodIn_app (goodIn_of _ (by decide +kernel)) ggL_greyest_X7_greyest
theorem dL_greyest_0 : decode cL_greyest 0 = .ok (.aload_n 2, 1) := by decide +kernel
theorem dL_greyest_1 : decode cL_greyest 1 = .ok (.iconst 0, 1) := by decide +kernel
theorem dL_greyest_2 : decode cL_greyest 2 = .ok (.aload_n 0, 1) := by decide +kernel
theorem dL_greyest_3 : decode cL_greyest 3 = .ok (.iload_n 1, 1) := by decide +kernel
theorem dL_greyest_4 : decode cL_greyest 4 = .ok (.invokevirtual 84, 3) := by decide +kernel
theorem dL_greyest_7 : decode cL_greyest 7 = .ok (.i2l, 1) := by decide +kernel
theorem dL_greyest_8 : decode cL_greyest 8 = .ok (.lastore, 1) := by decide +kernel
theorem dL_greyest_9 : decode cL_greyest 9 = .ok (.goto 6, 3) := by decide +kernel
theorem dL_greyest_12 : decode cL_greyest 12 = .ok (.astore_n 3, 1) := by decide +kernel
theorem dL_greyest_13 : decode cL_greyest 13 = .ok (.iconst 1, 1) := by decide +kernel
theorem dL_greyest_14 : decode cL_greyest 14 = .ok (.ireturn, 1) := by decide +kernel
theorem dL_greyest_15 : decode cL_greyest 15 = .ok (.iconst 0, 1) := by decide +kernel
theorem dL_greyest_16 : decode cL_greyest 16 = .ok (.ireturn, 1) := by decide +kernel
set_option maxRecDepth 20000 in
theorem ggL_line_X7_line : GoodIn wsL_line wsX7_line := goodIn_ca (goodIn_ca (goodIn_r _ [6, 7, 8, 9, 10, 11, 12, 13, 5, 14, 15, 16, 17, 18, 19, 20, 21, 22, 23, 24, 25, 26, 27, 28, 29, 30, 31, 32, 33, 34, 35, 36, 37, 38, 39, 40, 41, 42, 43, 44, 45, 46, 47, 48, 49, 50, 51, 52, 53, 54, 55, 56, 57, 58, 59, 60, 61, 62, 63, 64, 65, 66, 67, 68, 69, 70, 71, 72, 73, 74, 75, 76, 77, 78, 79, 80, 81, 82, 83, 84, 85, 86, 87, 88, 89, 90, 91, 92, 93, 94, 95, 96, 97] (by decide +kernel) (by decide +kernel)) (goodIn_sub (fun _ h => List.mem_cons_of_mem _ (List.mem_append_right _ h)) (by decide +kernel))) (goodIn_sub (fun _ h => List.mem_cons_of_mem _ (List.mem_append_left _ (List.mem_append_right _ h))) (by decide +kernel))
set_option maxRecDepth 20000 in
theorem gL_line_X7_line : GoodIn wsL_line (wsV RL 87 RX7 yX7_line wsX7_line) := goodIn_app (goodIn_of _ (by decide +kernel)) ggL_line_X7_line
theorem dL_line_0 : decode cL_line 0 = .ok (.aload_n 2, 1) := by decide +kernel
theorem dL_line_1 : decode cL_line 1 = .ok (.iconst 0, 1) := by decide +kernel
theorem dL_line_2 : decode cL_line 2 = .ok (.aload_n 0, 1) := by decide +kernel
theorem dL_line_3 : decode cL_line 3 = .ok (.iload_n 1, 1) := by decide +kernel
theorem dL_line_4 : decode cL_line 4 = .ok (.invokevirtual 87, 3) := by decide +kernel
theorem dL_line_7 : decode cL_line 7 = .ok (.i2l, 1) := by decide +kernel
theorem dL_line_8 : decode cL_line 8 = .ok (.lastore, 1) := by decide +kernel
theorem dL_line_9 : decode cL_line 9 = .ok (.goto 6, 3) := by decide +kernel
theorem dL_line_12 : decode cL_line 12 = .ok (.astore_n 3, 1) := by decide +kernel
theorem dL_line_13 : decode cL_line 13 = .ok (.iconst 1, 1) := by decide +kernel
theorem dL_line_14 : decode cL_line 14 = .ok (.ireturn, 1) := by decide +kernel
theorem dL_line_15 : decode cL_line 15 = .ok (.iconst 0, 1) := by decide +kernel
theorem dL_line_16 : decode cL_line 16 = .ok (.ireturn, 1) := by decide +kernel
set_option maxRecDepth 20000 in
theorem ggL_character_X7_character : GoodIn wsL_character wsX7_character := goodIn_ca (goodIn_ca (goodIn_r _ [6, 7, 8, 9, 10, 11, 12, 13, 14, 15, 16, 17, 18, 19, 20, 21, 22, 23, 24] (by decide +kernel) (by decide +kernel)) (goodIn_sub (fun _ h => List.mem_cons_of_mem _ (List.mem_append_right _ h)) (by decide +kernel))) (goodIn_sub (fun _ h => List.mem_cons_of_mem _ (List.mem_append_left _ (List.mem_append_right _ h))) (by decide +kernel))
set_option maxRecDepth 20000 in
theorem gL_character_X7_character : GoodIn wsL_character (wsV RL 90 RX7 yX7_character wsX7_character) := goodIn_app (goodIn_of _ (by decide +kernel)) ggL_character_X7_character
theorem dL_character_0 : decode cL_character 0 = .ok (.aload_n 2, 1) := by decide +kernel
theorem dL_character_1 : decode cL_character 1 = .ok (.iconst 0, 1) := by decide +kernel
theorem dL_character_2 : decode cL_character 2 = .ok (.aload_n 0, 1) := by decide +kernel
theorem dL_character_3 : decode cL_character 3 = .ok (.iload_n 1, 1) := by decide +kernel
theorem dL_character_4 : decode cL_character 4 = .ok (.invokevirtual 90, 3) := by decide +kernel
theorem dL_character_7 : decode cL_character 7 = .ok (.i2l, 1) := by decide +kernel
theorem dL_character_8 : decode cL_character 8 = .ok (.lastore, 1) := by decide +kernel
theorem dL_character_9 : decode cL_character 9 = .ok (.goto 6, 3) := by decide +kernel
theorem dL_character_12 : decode cL_character 12 = .ok (.astore_n 3, 1) := by decide +kernel
theorem dL_character_13 : decode cL_character 13 = .ok (.iconst 1, 1) := by decide +kernel
theorem dL_character_14 : decode cL_character 14 = .ok (.ireturn, 1) := by decide +kernel
theorem dL_character_15 : decode cL_character 15 = .ok (.iconst 0, 1) := by decide +kernel
theorem dL_character_16 : decode cL_character 16 = .ok (.ireturn, 1) := by decide +kernel
set_option maxRecDepth 20000 in
theorem ggL_append_X7_append : GoodIn wsL_append wsX7_append := goodIn_ca (goodIn_ca (goodIn_r _ [6, 7, 8, 9, 10, 11, 12, 13, 14, 15, 16, 17, 18, 19, 20, 21, 22, 23, 24, 25, 26, 27, 28, 29, 30] (by decide +kernel) (by decide +kernel)) (goodIn_sub (fun _ h => List.mem_cons_of_mem _ (List.mem_append_right _ h)) (by decide +kernel))) (goodIn_sub (fun _ h => List.mem_cons_of_mem _ (List.mem_append_left _ (List.mem_append_right _ h))) (by decide +kernel))
set_option maxRecDepth 20000 in
theorem gL_append_X7_append : GoodIn wsL_append (wsV RL 94 RX7 yX7_append wsX7_append) := goodIn_app (goodIn_of _ (by decide +kernel)) ggL_append_X7_append
theorem dL_append_0 : decode cL_append 0 = .ok (.aload_n 2, 1) := by decide +kernel
theorem dL_append_1 : decode cL_append 1 = .ok (.iconst 0, 1) := by decide +kernel
theorem dL_append_2 : decode cL_append 2 = .ok (.aload_n 0, 1) := by decide +kernel
theorem dL_append_3 : decode cL_append 3 = .ok (.iload_n 1, 1) := by decide +kernel
theorem dL_append_4 : decode cL_append 4 = .ok (.invokevirtual 94, 3) := by decide +kernel
theorem dL_append_7 : decode cL_append 7 = .ok (.i2l, 1) := by decide +kernel
theorem dL_append_8 : decode cL_append 8 = .ok (.lastore, 1) := by decide +kernel
theorem dL_append_9 : decode cL_append 9 = .ok (.goto 6, 3) := by decide +kernel
theorem dL_append_12 : decode cL_append 12 = .ok (.astore_n 3, 1) := by decide +kernel
theorem dL_append_13 : decode cL_append 13 = .ok (.iconst 1, 1) := by decide +kernel
theorem dL_append_14 : decode cL_append 14 = .ok (.ireturn, 1) := by decide +kernel
theorem dL_append_15 : decode cL_append 15 = .ok (.iconst 0, 1) := by decide +kernel
theorem dL_append_16 : decode cL_append 16 = .ok (.ireturn, 1) := by decide +kernel
set_option maxRecDepth 20000 in
theorem ggL_run_X7_run : GoodIn wsL_run wsX7_run := goodIn_ca (goodIn_ca (goodIn_ca (goodIn_r _ [7, 8, 9, 10, 11, 12, 13, 14, 15, 16, 17, 18, 19, 20, 21, 22, 23, 24, 25, 26, 27, 28, 29, 30, 31, 32, 33, 34, 35, 36, 37, 38, 39, 40, 41, 42, 43, 44, 45, 46, 47, 48, 49, 50, 51, 52, 53, 54, 55, 56, 57, 58, 59, 60, 61, 62, 63, 64, 65, 66, 67, 68, 69, 70, 71, 72, 73, 74, 75, 76, 77, 78, 79, 80, 81, 82, 83, 84, 85, 86, 6, 87, 88, 89, 90, 91, 92, 93, 94, 95, 96, 97, 98, 99, 100, 101, 102, 103, 104, 105, 106, 107, 108, 109, 110, 111, 112, 113, 114, 115, 116, 117, 118, 119, 120, 121, 122, 123, 124, 125, 126, 127, 128, 129, 130, 131, 132, 133, 134, 135, 136, 137, 138, 139, 140, 141, 142, 143, 144, 145, 146, 147, 148, 149, 150, 151, 152, 153, 154, 155, 156, 157, 158, 159, 160, 161, 162, 163, 164, 165, 166, 167, 168, 169, 170, 171, 172, 173, 174, 175, 176, 177, 178, 179, 180, 181, 182, 183, 184, 185, 186, 187, 188, 189, 190, 191, 192, 193, 194, 195, 196, 197, 198, 199, 200, 201, 202, 203, 204, 205, 206, 207, 208, 209, 210, 211, 212, 213, 214, 215, 216, 217, 218, 219, 220, 221, 222, 223, 224, 225, 226, 227, 228, 229, 230, 231, 232, 233, 234, 235, 236, 237, 238, 239, 240, 241, 242, 243, 244, 245, 246, 247, 248, 249, 250, 251, 252, 253, 254, 255, 256, 257, 258, 259, 260, 261, 262, 263, 264, 265, 266, 267, 268, 269, 270, 271, 272, 273, 274, 275, 276, 277, 278, 279, 280, 281, 282, 283, 284, 285, 286, 287, 288, 289, 290, 291, 292, 293, 294, 295, 296, 297, 298, 299, 300, 301, 302, 303, 304, 305, 306, 307, 308, 309, 310, 311, 312, 313, 314, 315, 316, 317, 318, 319, 320, 321, 322, 323, 324, 325, 326, 327, 328] (by decide +kernel) (by decide +kernel)) (goodIn_sub (fun _ h => List.mem_cons_of_mem _ (List.mem_append_left _ (List.mem_append_right _ h))) (by decide +kernel))) (goodIn_sub (fun _ h => List.mem_cons_of_mem _ (List.mem_append_right _ h)) (by decide +kernel))) (goodIn_sub (fun _ h => List.mem_cons_of_mem _ (List.mem_append_left _ (List.mem_append_left _ (List.mem_append_right _ h)))) (by decide +kernel))
set_option maxRecDepth 20000 in
theorem gL_run_X7_run : GoodIn wsL_run (wsV RL 100 RX7 yX7_run wsX7_run) := goodIn_app (goodIn_of _ (by decide +kernel)) ggL_run_X7_run
theorem dL_run_0 : decode cL_run 0 = .ok (.aload_n 1, 1) := by decide +kernel
theorem dL_run_1 : decode cL_run 1 = .ok (.iconst 0, 1) := by decide +kernel
theorem dL_run_2 : decode cL_run 2 = .ok (.aload_n 0, 1) := by decide +kernel
theorem dL_run_3 : decode cL_run 3 = .ok (.invokevirtual 100, 3) := by decide +kernel
theorem dL_run_6 : decode cL_run 6 = .ok (.i2l, 1) := by decide +kernel
theorem dL_run_7 : decode cL_run 7 = .ok (.lastore, 1) := by decide +kernel
theorem dL_run_8 : decode cL_run 8 = .ok (.goto 9, 3) := by decide +kernel
theorem dL_run_11 : decode cL_run 11 = .ok (.astore_n 2, 1) := by decide +kernel
theorem dL_run_12 : decode cL_run 12 = .ok (.iconst 1, 1) := by decide +kernel
theorem dL_run_13 : decode cL_run 13 = .ok (.ireturn, 1) := by decide +kernel
theorem dL_run_14 : decode cL_run 14 = .ok (.astore_n 2, 1) := by decide +kernel
theorem dL_run_15 : decode cL_run 15 = .ok (.iconst 2, 1) := by decide +kernel
theorem dL_run_16 : decode cL_run 16 = .ok (.ireturn, 1) := by decide +kernel
theorem dL_run_17 : decode cL_run 17 = .ok (.iconst 0, 1) := by decide +kernel
theorem dL_run_18 : decode cL_run 18 = .ok (.ireturn, 1) := by decide +kernel
set_option maxRecDepth 20000 in
theorem ggL_refusal_X7_refusal : GoodIn wsL_refusal wsX7_refusal := goodIn_ca (goodIn_r _ [6, 7, 8, 9, 10, 11, 12, 13, 14, 15, 16, 17, 18, 19, 20, 21] (by decide +kernel) (by decide +kernel)) (goodIn_sub (fun _ h => List.mem_cons_of_mem _ (List.mem_append_right _ h)) (by decide +kernel))
set_option maxRecDepth 20000 in
theorem gL_refusal_X7_refusal : GoodIn wsL_refusal (wsV RL 103 RX7 yX7_refusal wsX7_refusal) := goodIn_app (goodIn_of _ (by decide +kernel)) ggL_refusal_X7_refusal
theorem dL_refusal_0 : decode cL_refusal 0 = .ok (.aload_n 2, 1) := by decide +kernel
theorem dL_refusal_1 : decode cL_refusal 1 = .ok (.iconst 0, 1) := by decide +kernel
theorem dL_refusal_2 : decode cL_refusal 2 = .ok (.aload_n 0, 1) := by decide +kernel
theorem dL_refusal_3 : decode cL_refusal 3 = .ok (.iload_n 1, 1) := by decide +kernel
theorem dL_refusal_4 : decode cL_refusal 4 = .ok (.invokevirtual 103, 3) := by decide +kernel
theorem dL_refusal_7 : decode cL_refusal 7 = .ok (.i2l, 1) := by decide +kernel
theorem dL_refusal_8 : decode cL_refusal 8 = .ok (.lastore, 1) := by decide +kernel
theorem dL_refusal_9 : decode cL_refusal 9 = .ok (.goto 6, 3) := by decide +kernel
theorem dL_refusal_12 : decode cL_refusal 12 = .ok (.astore_n 3, 1) := by decide +kernel
theorem dL_refusal_13 : decode cL_refusal 13 = .ok (.iconst 1, 1) := by decide +kernel
theorem dL_refusal_14 : decode cL_refusal 14 = .ok (.ireturn, 1) := by decide +kernel
theorem dL_refusal_15 : decode cL_refusal 15 = .ok (.iconst 0, 1) := by decide +kernel
theorem dL_refusal_16 : decode cL_refusal 16 = .ok (.ireturn, 1) := by decide +kernel
set_option maxRecDepth 20000 in
theorem ggL_account_X7_account : GoodIn wsL_account wsX7_account := goodIn_ca (goodIn_ca (goodIn_r _ [6, 7, 8, 9, 10, 11, 12, 13, 5, 14, 15, 16, 17, 18, 19, 20, 21, 22, 23, 24, 25, 26, 27, 28, 29, 30, 31, 32, 33, 34, 35, 36, 37, 38, 39, 40, 41, 42, 43, 44, 45, 46, 47, 48, 49, 50, 51, 52, 53, 54, 55, 56, 57, 58, 59, 60, 61, 62, 63, 64, 65, 66, 67, 68, 69, 70, 71, 72, 73, 74, 75, 76, 77, 78, 79, 80, 81, 82, 83, 84, 85, 86, 87, 88, 89, 90, 91, 92, 93, 94, 95, 96, 97, 98, 99, 100, 101, 102, 103] (by decide +kernel) (by decide +kernel)) (goodIn_sub (fun _ h => List.mem_cons_of_mem _ (List.mem_append_right _ h)) (by decide +kernel))) (goodIn_sub (fun _ h => List.mem_cons_of_mem _ (List.mem_append_left _ (List.mem_append_right _ h))) (by decide +kernel))
set_option maxRecDepth 20000 in
theorem gL_account_X7_account : GoodIn wsL_account (wsV RL 107 RX7 yX7_account wsX7_account) := goodIn_app (goodIn_of _ (by decide +kernel)) ggL_account_X7_account
theorem dL_account_0 : decode cL_account 0 = .ok (.aload_n 2, 1) := by decide +kernel
theorem dL_account_1 : decode cL_account 1 = .ok (.iconst 0, 1) := by decide +kernel
theorem dL_account_2 : decode cL_account 2 = .ok (.aload_n 0, 1) := by decide +kernel
theorem dL_account_3 : decode cL_account 3 = .ok (.iload_n 1, 1) := by decide +kernel
theorem dL_account_4 : decode cL_account 4 = .ok (.invokevirtual 107, 3) := by decide +kernel
theorem dL_account_7 : decode cL_account 7 = .ok (.i2l, 1) := by decide +kernel
theorem dL_account_8 : decode cL_account 8 = .ok (.lastore, 1) := by decide +kernel
theorem dL_account_9 : decode cL_account 9 = .ok (.goto 6, 3) := by decide +kernel
theorem dL_account_12 : decode cL_account 12 = .ok (.astore_n 3, 1) := by decide +kernel
theorem dL_account_13 : decode cL_account 13 = .ok (.iconst 1, 1) := by decide +kernel
theorem dL_account_14 : decode cL_account 14 = .ok (.ireturn, 1) := by decide +kernel
theorem dL_account_15 : decode cL_account 15 = .ok (.iconst 0, 1) := by decide +kernel
theorem dL_account_16 : decode cL_account 16 = .ok (.ireturn, 1) := by decide +kernel
set_option maxRecDepth 20000 in
theorem ggL_meanGrey_X7_meanGrey : GoodIn wsL_meanGrey wsX7_meanGrey := goodIn_ca (goodIn_ca (goodIn_r _ [6, 7, 8, 9, 10, 11, 12, 13, 14, 15, 16, 17, 18, 19, 20, 21, 22, 23, 24, 25, 26, 27, 28, 29, 30, 31, 32, 33, 34, 35, 36, 37, 38, 39, 40, 41, 42, 43, 44, 45, 46, 47, 48, 49, 50, 51, 52, 53, 54, 55, 56, 57, 58, 59, 60, 61, 62, 63, 64, 65, 66, 67, 68, 69, 70, 71, 72, 73, 74, 75, 76, 77] (by decide +kernel) (by decide +kernel)) (goodIn_sub (fun _ h => List.mem_cons_of_mem _ (List.mem_append_right _ h)) (by decide +kernel))) (goodIn_sub (fun _ h => List.mem_cons_of_mem _ (List.mem_append_left _ (List.mem_append_right _ h))) (by decide +kernel))
set_option maxRecDepth 20000 in
theorem gL_meanGrey_X7_meanGrey : GoodIn wsL_meanGrey (wsV RL 110 RX7 yX7_meanGrey wsX7_meanGrey) := goodIn_app (goodIn_of _ (by decide +kernel)) ggL_meanGrey_X7_meanGrey
theorem dL_meanGrey_0 : decode cL_meanGrey 0 = .ok (.aload_n 1, 1) := by decide +kernel
theorem dL_meanGrey_1 : decode cL_meanGrey 1 = .ok (.iconst 0, 1) := by decide +kernel
theorem dL_meanGrey_2 : decode cL_meanGrey 2 = .ok (.aload_n 0, 1) := by decide +kernel
theorem dL_meanGrey_3 : decode cL_meanGrey 3 = .ok (.invokevirtual 110, 3) := by decide +kernel
theorem dL_meanGrey_6 : decode cL_meanGrey 6 = .ok (.dastore, 1) := by decide +kernel
theorem dL_meanGrey_7 : decode cL_meanGrey 7 = .ok (.goto 6, 3) := by decide +kernel
theorem dL_meanGrey_10 : decode cL_meanGrey 10 = .ok (.astore_n 2, 1) := by decide +kernel
theorem dL_meanGrey_11 : decode cL_meanGrey 11 = .ok (.iconst 1, 1) := by decide +kernel
theorem dL_meanGrey_12 : decode cL_meanGrey 12 = .ok (.ireturn, 1) := by decide +kernel
theorem dL_meanGrey_13 : decode cL_meanGrey 13 = .ok (.iconst 0, 1) := by decide +kernel
theorem dL_meanGrey_14 : decode cL_meanGrey 14 = .ok (.ireturn, 1) := by decide +kernel
set_option maxRecDepth 20000 in
theorem ggL_stampShare_X7_stampShare : GoodIn wsL_stampShare wsX7_stampShare := goodIn_ca (goodIn_r _ [6, 7, 8, 9, 10, 11, 12, 13, 14, 15, 16, 17, 18, 19, 20, 21, 22, 23, 24, 25, 26, 27, 28, 29, 30, 31, 32, 33, 34, 35, 36, 37, 38, 39, 40, 41, 42, 43, 44, 45, 46, 47, 48, 49] (by decide +kernel) (by decide +kernel)) (goodIn_sub (fun _ h => List.mem_cons_of_mem _ (List.mem_append_right _ h)) (by decide +kernel))
set_option maxRecDepth 20000 in
theorem gL_stampShare_X7_stampShare : GoodIn wsL_stampShare (wsV RL 116 RX7 yX7_stampShare wsX7_stampShare) := goodIn_app (goodIn_of _ (by decide +kernel)) ggL_stampShare_X7_stampShare
theorem dL_stampShare_0 : decode cL_stampShare 0 = .ok (.aload_n 1, 1) := by decide +kernel
theorem dL_stampShare_1 : decode cL_stampShare 1 = .ok (.iconst 0, 1) := by decide +kernel
theorem dL_stampShare_2 : decode cL_stampShare 2 = .ok (.aload_n 0, 1) := by decide +kernel
theorem dL_stampShare_3 : decode cL_stampShare 3 = .ok (.invokevirtual 116, 3) := by decide +kernel
theorem dL_stampShare_6 : decode cL_stampShare 6 = .ok (.f2d, 1) := by decide +kernel
theorem dL_stampShare_7 : decode cL_stampShare 7 = .ok (.dastore, 1) := by decide +kernel
theorem dL_stampShare_8 : decode cL_stampShare 8 = .ok (.goto 6, 3) := by decide +kernel
theorem dL_stampShare_11 : decode cL_stampShare 11 = .ok (.astore_n 2, 1) := by decide +kernel
theorem dL_stampShare_12 : decode cL_stampShare 12 = .ok (.iconst 1, 1) := by decide +kernel
theorem dL_stampShare_13 : decode cL_stampShare 13 = .ok (.ireturn, 1) := by decide +kernel
theorem dL_stampShare_14 : decode cL_stampShare 14 = .ok (.iconst 0, 1) := by decide +kernel
theorem dL_stampShare_15 : decode cL_stampShare 15 = .ok (.ireturn, 1) := by decide +kernel
set_option maxRecDepth 20000 in
theorem ggL_undo_X7_undo : GoodIn wsL_undo wsX7_undo := goodIn_ca (goodIn_r _ [6, 7, 8, 9, 10, 11, 12, 13, 14, 15, 16, 17, 18, 19, 20, 21, 22, 23, 24, 25, 26, 27, 28, 29, 30, 31, 32, 33, 34, 35, 36, 37, 38, 39, 40, 41, 42, 43, 44, 45, 46, 47, 48, 49, 50, 51, 52, 53, 54, 55, 56, 57, 58, 59, 60, 61, 62, 63, 64, 65, 66, 67, 68, 69, 70, 71, 72, 73, 74, 75, 76, 77, 78, 79, 80, 81, 82, 83, 84, 85, 86, 87, 88, 89, 90, 91, 92, 93, 94, 95, 96, 97, 98, 99, 100, 101] (by decide +kernel) (by decide +kernel)) (goodIn_sub (fun _ h => List.mem_cons_of_mem _ (List.mem_append_right _ h)) (by decide +kernel))
set_option maxRecDepth 20000 in
theorem gL_undo_X7_undo : GoodIn wsL_undo (wsV RL 120 RX7 yX7_undo wsX7_undo) := goodIn_app (goodIn_of _ (by decide +kernel)) ggL_undo_X7_undo
theorem dL_undo_0 : decode cL_undo 0 = .ok (.aload_n 1, 1) := by decide +kernel
theorem dL_undo_1 : decode cL_undo 1 = .ok (.iconst 0, 1) := by decide +kernel
theorem dL_undo_2 : decode cL_undo 2 = .ok (.aload_n 0, 1) := by decide +kernel
theorem dL_undo_3 : decode cL_undo 3 = .ok (.invokevirtual 120, 3) := by decide +kernel
theorem dL_undo_6 : decode cL_undo 6 = .ok (.i2l, 1) := by decide +kernel
theorem dL_undo_7 : decode cL_undo 7 = .ok (.lastore, 1) := by decide +kernel
theorem dL_undo_8 : decode cL_undo 8 = .ok (.goto 6, 3) := by decide +kernel
theorem dL_undo_11 : decode cL_undo 11 = .ok (.astore_n 2, 1) := by decide +kernel
theorem dL_undo_12 : decode cL_undo 12 = .ok (.iconst 1, 1) := by decide +kernel
theorem dL_undo_13 : decode cL_undo 13 = .ok (.ireturn, 1) := by decide +kernel
theorem dL_undo_14 : decode cL_undo 14 = .ok (.iconst 0, 1) := by decide +kernel
theorem dL_undo_15 : decode cL_undo 15 = .ok (.ireturn, 1) := by decide +kernel
set_option maxRecDepth 20000 in
theorem ggL_restore_X7_restore : GoodIn wsL_restore wsX7_restore := goodIn_ca (goodIn_r _ [6, 7, 8, 9, 10, 11, 12, 13, 14, 15, 16, 17, 18, 19, 20, 21, 22, 23, 24, 25, 26, 27, 28, 29, 30, 31, 32, 33, 34, 35, 36, 37, 38, 39, 40, 41, 42, 43, 44, 45, 46, 47, 48, 49, 50, 51, 52, 53, 54, 55, 56, 57, 58, 59, 60, 61, 62, 63, 64, 65, 66, 67, 68, 69, 70, 71, 72, 73, 74, 75, 76, 77, 78, 79, 80, 81, 82, 83, 84, 85, 86, 87, 88, 89, 90, 91, 92, 93, 94, 95, 96, 97, 98, 99, 100, 101] (by decide +kernel) (by decide +kernel)) (goodIn_sub (fun _ h => List.mem_cons_of_mem _ (List.mem_append_right _ h)) (by decide +kernel))
set_option maxRecDepth 20000 in
theorem gL_restore_X7_restore : GoodIn wsL_restore (wsV RL 123 RX7 yX7_restore wsX7_restore) := goodIn_app (goodIn_of _ (by decide +kernel)) ggL_restore_X7_restore
theorem dL_restore_0 : decode cL_restore 0 = .ok (.aload_n 1, 1) := by decide +kernel
theorem dL_restore_1 : decode cL_restore 1 = .ok (.iconst 0, 1) := by decide +kernel
theorem dL_restore_2 : decode cL_restore 2 = .ok (.aload_n 0, 1) := by decide +kernel
theorem dL_restore_3 : decode cL_restore 3 = .ok (.invokevirtual 123, 3) := by decide +kernel
theorem dL_restore_6 : decode cL_restore 6 = .ok (.i2l, 1) := by decide +kernel
theorem dL_restore_7 : decode cL_restore 7 = .ok (.lastore, 1) := by decide +kernel
theorem dL_restore_8 : decode cL_restore 8 = .ok (.goto 6, 3) := by decide +kernel
theorem dL_restore_11 : decode cL_restore 11 = .ok (.astore_n 2, 1) := by decide +kernel
theorem dL_restore_12 : decode cL_restore 12 = .ok (.iconst 1, 1) := by decide +kernel
theorem dL_restore_13 : decode cL_restore 13 = .ok (.ireturn, 1) := by decide +kernel
theorem dL_restore_14 : decode cL_restore 14 = .ok (.iconst 0, 1) := by decide +kernel
theorem dL_restore_15 : decode cL_restore 15 = .ok (.ireturn, 1) := by decide +kernel
