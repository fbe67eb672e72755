theorem dL_wouldPrint_13 : decode cL_wouldPrint 13 = .ok (.astore 4, 2) := by decide +kernel
theorem dL_wouldPrint_15 : decode cL_wouldPrint 15 = .ok (.iconst 1, 1) := by decide +kernel
theorem dL_wouldPrint_16 : decode cL_wouldPrint 16 = .ok (.ireturn, 1) := by decide +kernel
theorem dL_wouldPrint_17 : decode cL_wouldPrint 17 = .ok (.iconst 0, 1) := by decide +kernel
theorem dL_wouldPrint_18 : decode cL_wouldPrint 18 = .ok (.ireturn, 1) := by decide +kernel
set_option maxRecDepth 20000 in
theorem ggL_release_X6_release : GoodIn wsL_release wsX6_release := goodIn_ca (goodIn_ca (goodIn_r _ [6, 7, 8, 9, 10, 11, 12, 13, 14, 5, 15, 16, 17, 18, 19, 20, 21, 22, 23, 24, 25, 26, 27, 28, 29, 30, 31, 32, 33, 34, 35, 36, 37, 38, 39, 40, 41, 42, 43, 44, 45, 46, 47, 48, 49, 50, 51, 52, 53, 54, 55, 56, 57, 58, 59, 60, 61, 62, 63, 64, 65, 66, 67, 68, 69, 70, 71, 72, 73, 74, 75, 76, 77, 78, 79, 80, 81, 82, 83, 84, 85, 86, 87, 88, 89, 90, 91, 92, 93, 94, 95, 96, 97, 98, 99, 100, 101, 102, 103, 104, 105, 106, 107, 108, 109, 110, 111, 112, 113, 114, 115, 116, 117, 118, 119, 120, 121, 122, 123, 124, 125, 126, 127, 128, 129, 130, 131, 132, 133, 134, 135, 136, 137, 138, 139, 140, 141, 142, 143, 144, 145, 146, 147, 148, 149, 150, 151, 152, 153, 154, 155, 156, 157, 158, 159, 160, 161, 162, 163, 164, 165, 166, 167, 168, 169, 170, 171, 172, 173, 174, 175, 176, 177, 178, 179, 180, 181, 182, 183, 184, 185, 186, 187, 188, 189, 190, 191, 192, 193, 194, 195, 196, 197, 198, 199, 200, 201, 202, 203, 204, 205, 206, 207, 208, 209, 210, 211, 212, 213, 214, 215, 216, 217, 218, 219, 220, 221, 222, 223, 224, 225, 226, 227, 228, 229, 230, 231, 232, 233, 234, 235, 236, 237, 238, 239, 240, 241, 242, 243, 244, 245, 246, 247, 248, 249, 250, 251, 252, 253, 254, 255, 256, 257, 258, 259, 260, 261, 262, 263, 264, 265, 266, 267, 268, 269, 270, 271, 272, 273, 274, 275, 276, 277] (by decide +kernel) (by decide +kernel)) (goodIn_sub (fun _ h => List.mem_cons_of_mem _ (List.mem_append_left _ (List.mem_append_right _ h))) (by decide +kernel))) (goodIn_sub (fun _ h => List.mem_cons_of_mem _ (List.mem_append_right _ h)) (by decide +kernel))
set_option maxRecDepth 20000 in
theorem gL_release_X6_release : GoodIn wsL_release (wsV RL 101 RX6 yX6_release wsX6_release) := goodIn_app (goodIn_of _ (by decide +kernel)) ggL_release_X6_release
theorem dL_release_0 : decode cL_release 0 = .ok (.aload_n 3, 1) := by decide +kernel
theorem dL_release_1 : decode cL_release 1 = .ok (.iconst 0, 1) := by decide +kernel
theorem dL_release_2 : decode cL_release 2 = .ok (.aload_n 0, 1) := by decide +kernel
theorem dL_release_3 : decode cL_release 3 = .ok (.iload_n 1, 1) := by decide +kernel
theorem dL_release_4 : decode cL_release 4 = .ok (.iload_n 2, 1) := by decide +kernel
theorem dL_release_5 : decode cL_release 5 = .ok (.invokevirtual 101, 3) := by decide +kernel
theorem dL_release_8 : decode cL_release 8 = .ok (.i2l, 1) := by decide +kernel
theorem dL_release_9 : decode cL_release 9 = .ok (.lastore, 1) := by decide +kernel
theorem dL_release_10 : decode cL_release 10 = .ok (.goto 11, 3) := by decide +kernel
theorem dL_release_13 : decode cL_release 13 = .ok (.astore 4, 2) := by decide +kernel
theorem dL_release_15 : decode cL_release 15 = .ok (.iconst 1, 1) := by decide +kernel
theorem dL_release_16 : decode cL_release 16 = .ok (.ireturn, 1) := by decide +kernel
theorem dL_release_17 : decode cL_release 17 = .ok (.astore 4, 2) := by decide +kernel
theorem dL_release_19 : decode cL_release 19 = .ok (.iconst 2, 1) := by decide +kernel
theorem dL_release_20 : decode cL_release 20 = .ok (.ireturn, 1) := by decide +kernel
theorem dL_release_21 : decode cL_release 21 = .ok (.iconst 0, 1) := by decide +kernel
theorem dL_release_22 : decode cL_release 22 = .ok (.ireturn, 1) := by decide +kernel
set_option maxRecDepth 20000 in
theorem ggL_releaseAll_X6_releaseAll : GoodIn wsL_releaseAll wsX6_releaseAll := goodIn_ca (goodIn_r _ [6, 7, 8, 9, 10, 11, 12, 13, 14, 5, 15, 16, 17, 18, 19, 20, 21, 22, 23, 24, 25, 26, 27, 28, 29, 30, 31, 32, 33, 34, 35, 36, 37, 38, 39, 40, 41, 42, 43, 44, 45, 46, 47, 48, 49, 50, 51, 52, 53, 54, 55, 56, 57, 58, 59, 60, 61, 62, 63, 64, 65, 66, 67, 68, 69, 70, 71, 72, 73, 74, 75, 76, 77, 78, 79, 80, 81, 82, 83, 84, 85, 86, 87, 88, 89, 90, 91, 92, 93, 94, 95, 96, 97, 98, 99, 100, 101, 102, 103, 104, 105, 106, 107, 108, 109, 110, 111, 112, 113, 114, 115, 116, 117, 118, 119, 120, 121, 122, 123, 124, 125, 126, 127, 128, 129, 130, 131, 132, 133, 134, 135, 136, 137, 138, 139, 140, 141, 142, 143, 144, 145, 146, 147, 148, 149, 150, 151, 152, 153, 154, 155, 156, 157, 158, 159, 160, 161, 162, 163, 164, 165, 166, 167, 168, 169, 170, 171, 172, 173, 174, 175, 176, 177, 178, 179, 180, 181, 182, 183, 184, 185, 186, 187, 188, 189, 190, 191, 192, 193, 194, 195, 196, 197, 198, 199, 200, 201, 202, 203, 204, 205, 206, 207, 208, 209, 210, 211, 212, 213, 214, 215, 216, 217, 218, 219, 220, 221, 222, 223, 224, 225, 226, 227, 228, 229, 230, 231, 232, 233, 234, 235, 236, 237, 238, 239, 240, 241, 242, 243, 244, 245, 246, 247, 248, 249, 250, 251, 252, 253, 254, 255, 256, 257, 258, 259, 260, 261, 262, 263, 264, 265, 266, 267, 268, 269, 270, 271, 272, 273, 274, 275, 276, 277] (by decide +kernel) (by decide +kernel)) (goodIn_sub (fun _ h => List.mem_cons_of_mem _ (List.mem_append_right _ h)) (by decide +kernel))
set_option maxRecDepth 20000 in
theorem gL_releaseAll_X6_releaseAll : GoodIn wsL_releaseAll (wsV RL 104 RX6 yX6_releaseAll wsX6_releaseAll) := goodIn_app (goodIn_of _ (by decide +kernel)) ggL_releaseAll_X6_releaseAll
theorem dL_releaseAll_0 : decode cL_releaseAll 0 = .ok (.aload_n 3, 1) := by decide +kernel
theorem dL_releaseAll_1 : decode cL_releaseAll 1 = .ok (.iconst 0, 1) := by decide +kernel
theorem dL_releaseAll_2 : decode cL_releaseAll 2 = .ok (.aload_n 0, 1) := by decide +kernel
theorem dL_releaseAll_3 : decode cL_releaseAll 3 = .ok (.iload_n 1, 1) := by decide +kernel
theorem dL_releaseAll_4 : decode cL_releaseAll 4 = .ok (.iload_n 2, 1) := by decide +kernel
theorem dL_releaseAll_5 : decode cL_releaseAll 5 = .ok (.invokevirtual 104, 3) := by decide +kernel
theorem dL_releaseAll_8 : decode cL_releaseAll 8 = .ok (.i2l, 1) := by decide +kernel
theorem dL_releaseAll_9 : decode cL_releaseAll 9 = .ok (.lastore, 1) := by decide +kernel
theorem dL_releaseAll_10 : decode cL_releaseAll 10 = .ok (.goto 7, 3) := by decide +kernel
theorem dL_releaseAll_13 : decode cL_releaseAll 13 = .ok (.astore 4, 2) := by decide +kernel
theorem dL_releaseAll_15 : decode cL_releaseAll 15 = .ok (.iconst 1, 1) := by decide +kernel
theorem dL_releaseAll_16 : decode cL_releaseAll 16 = .ok (.ireturn, 1) := by decide +kernel
theorem dL_releaseAll_17 : decode cL_releaseAll 17 = .ok (.iconst 0, 1) := by decide +kernel
theorem dL_releaseAll_18 : decode cL_releaseAll 18 = .ok (.ireturn, 1) := by decide +kernel
set_option maxRecDepth 20000 in
theorem ggL_stopOf_X6_stopOf : GoodIn wsL_stopOf wsX6_stopOf := goodIn_ca (goodIn_ca (goodIn_r _ [6, 7, 8, 9, 10, 11, 12, 5, 13, 14, 15, 16, 17, 18, 19, 20, 21, 22, 23, 24, 25, 26, 27, 28, 29, 30, 31, 32, 33, 34, 35, 36, 37, 38, 39, 40, 41, 42] (by decide +kernel) (by decide +kernel)) (goodIn_sub (fun _ h => List.mem_cons_of_mem _ (List.mem_append_left _ (List.mem_append_right _ h))) (by decide +kernel))) (goodIn_sub (fun _ h => List.mem_cons_of_mem _ (List.mem_append_right _ h)) (by decide +kernel))
set_option maxRecDepth 20000 in
theorem gL_stopOf_X6_stopOf : GoodIn wsL_stopOf (wsV RL 107 RX6 yX6_stopOf wsX6_stopOf) := goodIn_app (goodIn_of _ (by decide +kernel)) ggL_stopOf_X6_stopOf
theorem dL_stopOf_0 : decode cL_stopOf 0 = .ok (.aload_n 2, 1) := by decide +kernel
theorem dL_stopOf_1 : decode cL_stopOf 1 = .ok (.iconst 0, 1) := by decide +kernel
theorem dL_stopOf_2 : decode cL_stopOf 2 = .ok (.aload_n 0, 1) := by decide +kernel
theorem dL_stopOf_3 : decode cL_stopOf 3 = .ok (.iload_n 1, 1) := by decide +kernel
theorem dL_stopOf_4 : decode cL_stopOf 4 = .ok (.invokevirtual 107, 3) := by decide +kernel
theorem dL_stopOf_7 : decode cL_stopOf 7 = .ok (.i2l, 1) := by decide +kernel
theorem dL_stopOf_8 : decode cL_stopOf 8 = .ok (.lastore, 1) := by decide +kernel
theorem dL_stopOf_9 : decode cL_stopOf 9 = .ok (.goto 9, 3) := by decide +kernel
theorem dL_stopOf_12 : decode cL_stopOf 12 = .ok (.astore_n 3, 1) := by decide +kernel
theorem dL_stopOf_13 : decode cL_stopOf 13 = .ok (.iconst 1, 1) := by decide +kernel
theorem dL_stopOf_14 : decode cL_stopOf 14 = .ok (.ireturn, 1) := by decide +kernel
theorem dL_stopOf_15 : decode cL_stopOf 15 = .ok (.astore_n 3, 1) := by decide +kernel
theorem dL_stopOf_16 : decode cL_stopOf 16 = .ok (.iconst 2, 1) := by decide +kernel
theorem dL_stopOf_17 : decode cL_stopOf 17 = .ok (.ireturn, 1) := by decide +kernel
theorem dL_stopOf_18 : decode cL_stopOf 18 = .ok (.iconst 0, 1) := by decide +kernel
theorem dL_stopOf_19 : decode cL_stopOf 19 = .ok (.ireturn, 1) := by decide +kernel
set_option maxRecDepth 20000 in
theorem ggL_bestPrinter_X6_bestPrinter : GoodIn wsL_bestPrinter wsX6_bestPrinter := goodIn_ca (goodIn_ca (goodIn_r _ [6, 7, 8, 9, 10, 11, 12, 13, 14, 5, 15, 16, 17, 18, 19, 20, 21, 22, 23, 24, 25, 26, 27, 28, 29, 30, 31, 32, 33, 34, 35, 36, 37, 38, 39, 40, 41, 42, 43, 44, 45, 46, 47, 48, 49, 50, 51, 52, 53, 54, 55, 56, 57, 58, 59, 60, 61, 62, 63, 64, 65, 66, 67, 68, 69, 70, 71, 72, 73, 74, 75, 76, 77, 78, 79, 80, 81, 82, 83, 84, 85, 86, 87, 88, 89, 90, 91, 92, 93, 94, 95, 96, 97, 98, 99, 100, 101, 102, 103, 104, 105, 106, 107, 108, 109, 110, 111, 112, 113, 114, 115, 116, 117, 118, 119, 120, 121, 122, 123, 124, 125, 126, 127, 128, 129, 130, 131, 132, 133, 134, 135, 136, 137, 138, 139, 140, 141, 142, 143, 144, 145, 146, 147, 148, 149, 150, 151, 152, 153, 154, 155, 156] (by decide +kernel) (by decide +kernel)) (goodIn_sub (fun _ h => List.mem_cons_of_mem _ (List.mem_append_left _ (List.mem_append_right _ h))) (by decide +kernel))) (goodIn_sub (fun _ h => List.mem_cons_of_mem _ (List.mem_append_right _ h)) (by decide +kernel))
set_option maxRecDepth 20000 in
theorem gL_bestPrinter_X6_bestPrinter : GoodIn wsL_bestPrinter (wsV RL 112 RX6 yX6_bestPrinter wsX6_bestPrinter) := goodIn_app (goodIn_of _ (by decide +kernel)) ggL_bestPrinter_X6_bestPrinter
theorem dL_bestPrinter_0 : decode cL_bestPrinter 0 = .ok (.aload_n 2, 1) := by decide +kernel
theorem dL_bestPrinter_1 : decode cL_bestPrinter 1 = .ok (.iconst 0, 1) := by decide +kernel
theorem dL_bestPrinter_2 : decode cL_bestPrinter 2 = .ok (.aload_n 0, 1) := by decide +kernel
theorem dL_bestPrinter_3 : decode cL_bestPrinter 3 = .ok (.iload_n 1, 1) := by decide +kernel
theorem dL_bestPrinter_4 : decode cL_bestPrinter 4 = .ok (.invokevirtual 112, 3) := by decide +kernel
theorem dL_bestPrinter_7 : decode cL_bestPrinter 7 = .ok (.i2l, 1) := by decide +kernel
theorem dL_bestPrinter_8 : decode cL_bestPrinter 8 = .ok (.lastore, 1) := by decide +kernel
theorem dL_bestPrinter_9 : decode cL_bestPrinter 9 = .ok (.goto 9, 3) := by decide +kernel
theorem dL_bestPrinter_12 : decode cL_bestPrinter 12 = .ok (.astore_n 3, 1) := by decide +kernel
theorem dL_bestPrinter_13 : decode cL_bestPrinter 13 = .ok (.iconst 1, 1) := by decide +kernel
theorem dL_bestPrinter_14 : decode cL_bestPrinter 14 = .ok (.ireturn, 1) := by decide +kernel
theorem dL_bestPrinter_15 : decode cL_bestPrinter 15 = .ok (.astore_n 3, 1) := by decide +kernel
theorem dL_bestPrinter_16 : decode cL_bestPrinter 16 = .ok (.iconst 2, 1) := by decide +kernel
theorem dL_bestPrinter_17 : decode cL_bestPrinter 17 = .ok (.ireturn, 1) := by decide +kernel
theorem dL_bestPrinter_18 : decode cL_bestPrinter 18 = .ok (.iconst 0, 1) := by decide +kernel
theorem dL_bestPrinter_19 : decode cL_bestPrinter 19 = .ok (.ireturn, 1) := by decide +kernel
set_option maxRecDepth 20000 in
theorem ggL_queueLength_X6_queueLength : GoodIn wsL_queueLength wsX6_queueLength := goodIn_ca (goodIn_r _ [6, 7, 8, 9, 10, 5, 11, 12, 13, 14, 15, 16, 17, 18, 19, 20, 21, 22, 23, 24, 25, 26, 27, 28, 29, 30, 31, 32, 33, 34, 35, 36, 37, 38, 39, 40, 41, 42, 43, 44, 45, 46, 47, 48, 49, 50, 51, 52, 53, 54, 55, 56, 57, 58, 59, 60, 61, 62, 63, 64, 65, 66, 67, 68, 69, 70, 71, 72, 73, 74, 75, 76, 77, 78, 79, 80, 81, 82, 83, 84, 85, 86, 87, 88, 89, 90, 91, 92, 93, 94, 95, 96, 97, 98, 99, 100, 101, 102, 103, 104, 105, 106, 107, 108, 109, 110, 111, 112, 113, 114, 115, 116, 117, 118, 119, 120, 121, 122, 123, 124, 125, 126, 127, 128, 129, 130, 131, 132, 133, 134, 135, 136, 137, 138, 139, 140, 141, 142, 143] (by decide +kernel) (by decide +kernel)) (goodIn_sub (fun _ h => List.mem_cons_of_mem _ (List.mem_append_right _ h)) (by decide +kernel))
set_option maxRecDepth 20000 in
theorem gL_queueLength_X6_queueLength : GoodIn wsL_queueLength (wsV RL 115 RX6 yX6_queueLength wsX6_queueLength) := goodIn_app (goodIn_of _ (by decide +kernel)) ggL_queueLength_X6_queueLength
theorem dL_queueLength_0 : decode cL_queueLength 0 = .ok (.aload_n 2, 1) := by decide +kernel
theorem dL_queueLength_1 : decode cL_queueLength 1 = .ok (.iconst 0, 1) := by decide +kernel
theorem dL_queueLength_2 : decode cL_queueLength 2 = .ok (.aload_n 0, 1) := by decide +kernel
theorem dL_queueLength_3 : decode cL_queueLength 3 = .ok (.iload_n 1, 1) := by decide +kernel
theorem dL_queueLength_4 : decode cL_queueLength 4 = .ok (.invokevirtual 115, 3) := by decide +kernel
theorem dL_queueLength_7 : decode cL_queueLength 7 = .ok (.i2l, 1) := by decide +kernel
theorem dL_queueLength_8 : decode cL_queueLength 8 = .ok (.lastore, 1) := by decide +kernel
theorem dL_queueLength_9 : decode cL_queueLength 9 = .ok (.goto 6, 3) := by decide +kernel
theorem dL_queueLength_12 : decode cL_queueLength 12 = .ok (.astore_n 3, 1) := by decide +kernel
theorem dL_queueLength_13 : decode cL_queueLength 13 = .ok (.iconst 1, 1) := by decide +kernel
theorem dL_queueLength_14 : decode cL_queueLength 14 = .ok (.ireturn, 1) := by decide +kernel
theorem dL_queueLength_15 : decode cL_queueLength 15 = .ok (.iconst 0, 1) := by decide +kernel
theorem dL_queueLength_16 : decode cL_queueLength 16 = .ok (.ireturn, 1) := by decide +kernel
set_option maxRecDepth 20000 in
theorem ggL_queueAt_X6_queueAt : GoodIn wsL_queueAt wsX6_queueAt := goodIn_ca (goodIn_ca (goodIn_r _ [6, 7, 8, 9, 10, 11, 12, 13, 5, 14, 15, 16, 17, 18, 19, 20, 21, 22, 23, 24, 25, 26, 27, 28, 29, 30, 31, 32, 33, 34, 35, 36, 37, 38, 39, 40, 41, 42, 43, 44, 45, 46, 47, 48, 49, 50, 51, 52, 53, 54, 55, 56, 57, 58, 59, 60, 61, 62, 63, 64, 65, 66, 67, 68, 69, 70, 71, 72, 73, 74, 75, 76, 77, 78, 79, 80, 81, 82, 83, 84, 85, 86, 87, 88, 89, 90, 91, 92, 93, 94, 95, 96, 97, 98, 99, 100, 101, 102, 103, 104, 105, 106, 107, 108, 109, 110, 111, 112, 113, 114, 115, 116, 117, 118, 119, 120, 121, 122, 123, 124, 125, 126, 127, 128, 129, 130, 131, 132, 133, 134, 135, 136, 137, 138, 139, 140, 141, 142, 143, 144, 145, 146, 147, 148, 149, 150, 151, 152, 153, 154, 155, 156, 157, 158, 159, 160, 161] (by decide +kernel) (by decide +kernel)) (goodIn_sub (fun _ h => List.mem_cons_of_mem _ (List.mem_append_left _ (List.mem_append_right _ h))) (by decide +kernel))) (goodIn_sub (fun _ h => List.mem_cons_of_mem _ (List.mem_append_right _ h)) (by decide +kernel))
set_option maxRecDepth 20000 in
theorem gL_queueAt_X6_queueAt : GoodIn wsL_queueAt (wsV RL 118 RX6 yX6_queueAt wsX6_queueAt) := goodIn_app (goodIn_of _ (by decide +kernel)) ggL_queueAt_X6_queueAt
theorem dL_queueAt_0 : decode cL_queueAt 0 = .ok (.aload_n 3, 1) := by decide +kernel
theorem dL_queueAt_1 : decode cL_queueAt 1 = .ok (.iconst 0, 1) := by decide +kernel
theorem dL_queueAt_2 : decode cL_queueAt 2 = .ok (.aload_n 0, 1) := by decide +kernel
theorem dL_queueAt_3 : decode cL_queueAt 3 = .ok (.iload_n 1, 1) := by decide +kernel
theorem dL_queueAt_4 : decode cL_queueAt 4 = .ok (.iload_n 2, 1) := by decide +kernel
theorem dL_queueAt_5 : decode cL_queueAt 5 = .ok (.invokevirtual 118, 3) := by decide +kernel
theorem dL_queueAt_8 : decode cL_queueAt 8 = .ok (.i2l, 1) := by decide +kernel
theorem dL_queueAt_9 : decode cL_queueAt 9 = .ok (.lastore, 1) := by decide +kernel
theorem dL_queueAt_10 : decode cL_queueAt 10 = .ok (.goto 11, 3) := by decide +kernel
theorem dL_queueAt_13 : decode cL_queueAt 13 = .ok (.astore 4, 2) := by decide +kernel
theorem dL_queueAt_15 : decode cL_queueAt 15 = .ok (.iconst 1, 1) := by decide +kernel
theorem dL_queueAt_16 : decode cL_queueAt 16 = .ok (.ireturn, 1) := by decide +kernel
theorem dL_queueAt_17 : decode cL_queueAt 17 = .ok (.astore 4, 2) := by decide +kernel
theorem dL_queueAt_19 : decode cL_queueAt 19 = .ok (.iconst 2, 1) := by decide +kernel
theorem dL_queueAt_20 : decode cL_queueAt 20 = .ok (.ireturn, 1) := by decide +kernel
theorem dL_queueAt_21 : decode cL_queueAt 21 = .ok (.iconst 0, 1) := by decide +kernel
theorem dL_queueAt_22 : decode cL_queueAt 22 = .ok (.ireturn, 1) := by decide +kernel
set_option maxRecDepth 20000 in
theorem ggL_logJob_X6_logJob : GoodIn wsL_logJob wsX6_logJob := goodIn_ca (goodIn_r _ [6, 7, 8, 9, 10, 5, 11, 12, 13, 14, 15, 16, 17, 18, 19, 20, 21, 22, 23, 24, 25, 26, 27, 28, 29, 30, 31, 32, 33, 34, 35, 36, 37, 38, 39, 40, 41, 42, 43, 44, 45, 46, 47, 48, 49, 50, 51, 52, 53, 54, 55, 56, 57, 58, 59] (by decide +kernel) (by decide +kernel)) (goodIn_sub (fun _ h => List.mem_cons_of_mem _ (List.mem_append_right _ h)) (by decide +kernel))
set_option maxRecDepth 20000 in
theorem gL_logJob_X6_logJob : GoodIn wsL_logJob (wsV RL 121 RX6 yX6_logJob wsX6_logJob) := goodIn_app (goodIn_of _ (by decide +kernel)) ggL_logJob_X6_logJob
theorem dL_logJob_0 : decode cL_logJob 0 = .ok (.aload_n 2, 1) := by decide +kernel
theorem dL_logJob_1 : decode cL_logJob 1 = .ok (.iconst 0, 1) := by decide +kernel
theorem dL_logJob_2 : decode cL_logJob 2 = .ok (.aload_n 0, 1) := by decide +kernel
theorem dL_logJob_3 : decode cL_logJob 3 = .ok (.iload_n 1, 1) := by decide +kernel
theorem dL_logJob_4 : decode cL_logJob 4 = .ok (.invokevirtual 121, 3) := by decide +kernel
theorem dL_logJob_7 : decode cL_logJob 7 = .ok (.i2l, 1) := by decide +kernel
theorem dL_logJob_8 : decode cL_logJob 8 = .ok (.lastore, 1) := by decide +kernel
theorem dL_logJob_9 : decode cL_logJob 9 = .ok (.goto 6, 3) := by decide +kernel
theorem dL_logJob_12 : decode cL_logJob 12 = .ok (.astore_n 3, 1) := by decide +kernel
theorem dL_logJob_13 : decode cL_logJob 13 = .ok (.iconst 1, 1) := by decide +kernel
theorem dL_logJob_14 : decode cL_logJob 14 = .ok (.ireturn, 1) := by decide +kernel
theorem dL_logJob_15 : decode cL_logJob 15 = .ok (.iconst 0, 1) := by decide +kernel
theorem dL_logJob_16 : decode cL_logJob 16 = .ok (.ireturn, 1) := by decide +kernel
set_option maxRecDepth 20000 in
theorem ggL_logPrinter_X6_logPrinter : GoodIn wsL_logPrinter wsX6_logPrinter := goodIn_ca (goodIn_r _ [6, 7, 8, 9, 10, 5, 11, 12, 13, 14, 15, 16, 17, 18, 19, 20, 21, 22, 23, 24, 25, 26, 27, 28, 29, 30, 31, 32, 33, 34, 35, 36, 37, 38, 39, 40, 41, 42, 43, 44, 45, 46, 47, 48, 49, 50, 51, 52, 53, 54, 55, 56, 57, 58, 59] (by decide +kernel) (by decide +kernel)) (goodIn_sub (fun _ h => List.mem_cons_of_mem _ (List.mem_append_right _ h)) (by decide +kernel))
set_option maxRecDepth 20000 in
theorem gL_logPrinter_X6_logPrinter : GoodIn wsL_logPrinter (wsV RL 124 RX6 yX6_logPrinter wsX6_logPrinter) := goodIn_app (goodIn_of _ (by decide +kernel)) ggL_logPrinter_X6_logPrinter
theorem dL_logPrinter_0 : decode cL_logPrinter 0 = .ok (.aload_n 2, 1) := by decide +kernel
theorem dL_logPrinter_1 : decode cL_logPrinter 1 = .ok (.iconst 0, 1) := by decide +kernel
theorem dL_logPrinter_2 : decode cL_logPrinter 2 = .ok (.aload_n 0, 1) := by decide +kernel
theorem dL_logPrinter_3 : decode cL_logPrinter 3 = .ok (.iload_n 1, 1) := by decide +kernel
theorem dL_logPrinter_4 : decode cL_logPrinter 4 = .ok (.invokevirtual 124, 3) := by decide +kernel
theorem dL_logPrinter_7 : decode cL_logPrinter 7 = .ok (.i2l, 1) := by decide +kernel
theorem dL_logPrinter_8 : decode cL_logPrinter 8 = .ok (.lastore, 1) := by decide +kernel
theorem dL_logPrinter_9 : decode cL_logPrinter 9 = .ok (.goto 6, 3) := by decide +kernel
theorem dL_logPrinter_12 : decode cL_logPrinter 12 = .ok (.astore_n 3, 1) := by decide +kernel
theorem dL_logPrinter_13 : decode cL_logPrinter 13 = .ok (.iconst 1, 1) := by decide +kernel
theorem dL_logPrinter_14 : decode cL_logPrinter 14 = .ok (.ireturn, 1) := by decide +kernel
theorem dL_logPrinter_15 : decode cL_logPrinter 15 = .ok (.iconst 0, 1) := by decide +kernel
theorem dL_logPrinter_16 : decode cL_logPrinter 16 = .ok (.ireturn, 1) := by decide +kernel
set_option maxRecDepth 20000 in
theorem ggL_logPages_X6_logPages : GoodIn wsL_logPages wsX6_logPages := goodIn_ca (goodIn_r _ [6, 7, 8, 9, 10, 5, 11, 12, 13, 14, 15, 16, 17, 18, 19, 20, 21, 22, 23, 24, 25, 26, 27, 28, 29, 30, 31, 32, 33, 34, 35, 36, 37, 38, 39, 40, 41, 42, 43, 44, 45, 46, 47, 48, 49, 50, 51, 52, 53, 54, 55, 56, 57, 58, 59] (by decide +kernel) (by decide +kernel)) (goodIn_sub (fun _ h => List.mem_cons_of_mem _ (List.mem_append_right _ h)) (by decide +kernel))
set_option maxRecDepth 20000 in
theorem gL_logPages_X6_logPages : GoodIn wsL_logPages (wsV RL 127 RX6 yX6_logPages wsX6_logPages) := goodIn_app (goodIn_of _ (by decide +kernel)) ggL_logPages_X6_logPages
theorem dL_logPages_0 : decode cL_logPages 0 = .ok (.aload_n 2, 1) := by decide +kernel
theorem dL_logPages_1 : decode cL_logPages 1 = .ok (.iconst 0, 1) := by decide +kernel
theorem dL_logPages_2 : decode cL_logPages 2 = .ok (.aload_n 0, 1) := by decide +kernel
theorem dL_logPages_3 : decode cL_logPages 3 = .ok (.iload_n 1, 1) := by decide +kernel
theorem dL_logPages_4 : decode cL_logPages 4 = .ok (.invokevirtual 127, 3) := by decide +kernel
theorem dL_logPages_7 : decode cL_logPages 7 = .ok (.i2l, 1) := by decide +kernel
theorem dL_logPages_8 : decode cL_logPages 8 = .ok (.lastore, 1) := by decide +kernel
theorem dL_logPages_9 : decode cL_logPages 9 = .ok (.goto 6, 3) := by decide +kernel
theorem dL_logPages_12 : decode cL_logPages 12 = .ok (.astore_n 3, 1) := by decide +kernel
theorem dL_logPages_13 : decode cL_logPages 13 = .ok (.iconst 1, 1) := by decide +kernel
theorem dL_logPages_14 : decode cL_logPages 14 = .ok (.ireturn, 1) := by decide +kernel
theorem dL_logPages_15 : decode cL_logPages 15 = .ok (.iconst 0, 1) := by decide +kernel
theorem dL_logPages_16 : decode cL_logPages 16 = .ok (.ireturn, 1) := by decide +kernel
set_option maxRecDepth 20000 in
theorem ggL_logSheets_X6_logSheets : GoodIn wsL_logSheets wsX6_logSheets := goodIn_ca (goodIn_r _ [6, 7, 8, 9, 10, 5, 11, 12, 13, 14, 15, 16, 17, 18, 19, 20, 21, 22, 23, 24, 25, 26, 27, 28, 29, 30, 31, 32, 33, 34, 35, 36, 37, 38, 39, 40, 41, 42, 43, 44, 45, 46, 47, 48, 49, 50, 51, 52, 53, 54, 55, 56, 57, 58, 59] (by decide +kernel) (by decide +kernel)) (goodIn_sub (fun _ h => List.mem_cons_of_mem _ (List.mem_append_right _ h)) (by decide +kernel))
set_option maxRecDepth 20000 in
theorem gL_logSheets_X6_logSheets : GoodIn wsL_logSheets (wsV RL 130 RX6 yX6_logSheets wsX6_logSheets) := goodIn_app (goodIn_of _ (by decide +kernel)) ggL_logSheets_X6_logSheets
theorem dL_logSheets_0 : decode cL_logSheets 0 = .ok (.aload_n 2, 1) := by decide +kernel
theorem dL_logSheets_1 : decode cL_logSheets 1 = .ok (.iconst 0, 1) := by decide +kernel
theorem dL_logSheets_2 : decode cL_logSheets 2 = .ok (.aload_n 0, 1) := by decide +kernel
theorem dL_logSheets_3 : decode cL_logSheets 3 = .ok (.iload_n 1, 1) := by decide +kernel
theorem dL_logSheets_4 : decode cL_logSheets 4 = .ok (.invokevirtual 130, 3) := by decide +kernel
theorem dL_logSheets_7 : decode cL_logSheets 7 = .ok (.i2l, 1) := by decide +kernel
theorem dL_logSheets_8 : decode cL_logSheets 8 = .ok (.lastore, 1) := by decide +kernel
theorem dL_logSheets_9 : decode cL_logSheets 9 = .ok (.goto 6, 3) := by decide +kernel
theorem dL_logSheets_12 : decode cL_logSheets 12 = .ok (.astore_n 3, 1) := by decide +kernel
theorem dL_logSheets_13 : decode cL_logSheets 13 = .ok (.iconst 1, 1) := by decide +kernel
theorem dL_logSheets_14 : decode cL_logSheets 14 = .ok (.ireturn, 1) := by decide +kernel
theorem dL_logSheets_15 : decode cL_logSheets 15 = .ok (.iconst 0, 1) := by decide +kernel
theorem dL_logSheets_16 : decode cL_logSheets 16 = .ok (.ireturn, 1) := by decide +kernel
set_option maxRecDepth 20000 in
theorem ggL_pagesOf_X6_pagesOf : GoodIn wsL_pagesOf wsX6_pagesOf := goodIn_ca (goodIn_r _ [6, 7, 8, 9, 10, 5, 11, 12, 13, 14, 15, 16, 17, 18, 19, 20, 21, 22, 23, 24, 25, 26, 27, 28, 29, 30] (by decide +kernel) (by decide +kernel)) (goodIn_sub (fun _ h => List.mem_cons_of_mem _ (List.mem_append_right _ h)) (by decide +kernel))
set_option maxRecDepth 20000 in
theorem gL_pagesOf_X6_pagesOf : GoodIn wsL_pagesOf (wsV RL 133 RX6 yX6_pagesOf wsX6_pagesOf) := goodIn_app (goodIn_of _ (by decide +kernel)) ggL_pagesOf_X6_pagesOf
theorem dL_pagesOf_0 : decode cL_pagesOf 0 = .ok (.aload_n 2, 1) := by decide +kernel
theorem dL_pagesOf_1 : decode cL_pagesOf 1 = .ok (.iconst 0, 1) := by decide +kernel
theorem dL_pagesOf_2 : decode cL_pagesOf 2 = .ok (.aload_n 0, 1) := by decide +kernel
theorem dL_pagesOf_3 : decode cL_pagesOf 3 = .ok (.iload_n 1, 1) := by decide +kernel
theorem dL_pagesOf_4 : decode cL_pagesOf 4 = .ok (.invokevirtual 133, 3) := by decide +kernel
theorem dL_pagesOf_7 : decode cL_pagesOf 7 = .ok (.i2l, 1) := by decide +kernel
theorem dL_pagesOf_8 : decode cL_pagesOf 8 = .ok (.lastore, 1) := by decide +kernel
theorem dL_pagesOf_9 : decode cL_pagesOf 9 = .ok (.goto 6, 3) := by decide +kernel
theorem dL_pagesOf_12 : decode cL_pagesOf 12 = .ok (.astore_n 3, 1) := by decide +kernel
theorem dL_pagesOf_13 : decode cL_pagesOf 13 = .ok (.iconst 1, 1) := by decide +kernel
theorem dL_pagesOf_14 : decode cL_pagesOf 14 = .ok (.ireturn, 1) := by decide +kernel
theorem dL_pagesOf_15 : decode cL_pagesOf 15 = .ok (.iconst 0, 1) := by decide +kernel
theorem dL_pagesOf_16 : decode cL_pagesOf 16 = .ok (.ireturn, 1) := by decide +kernel
set_option maxRecDepth 20000 in
theorem ggL_pagesByLog_X6_pagesByLog : GoodIn wsL_pagesByLog wsX6_pagesByLog := goodIn_ca (goodIn_r _ [6, 7, 8, 9, 10, 11, 12, 13, 5, 14, 15, 16, 17, 18, 19, 20, 21, 22, 23, 24, 25, 26, 27, 28, 29, 30, 31, 32, 33, 34, 35, 36, 37, 38, 39, 40, 41, 42, 43, 44, 45, 46, 47, 48, 49, 50, 51, 52, 53, 54, 55, 56, 57, 58, 59, 60, 61] (by decide +kernel) (by decide +kernel)) (goodIn_sub (fun _ h => List.mem_cons_of_mem _ (List.mem_append_right _ h)) (by decide +kernel))
set_option maxRecDepth 20000 in
theorem gL_pagesByLog_X6_pagesByLog : GoodIn wsL_pagesByLog (wsV RL 136 RX6 yX6_pagesByLog wsX6_pagesByLog) := goodIn_app (goodIn_of _ (by decide +kernel)) ggL_pagesByLog_X6_pagesByLog
theorem dL_pagesByLog_0 : decode cL_pagesByLog 0 = .ok (.aload_n 2, 1) := by decide +kernel
theorem dL_pagesByLog_1 : decode cL_pagesByLog 1 = .ok (.iconst 0, 1) := by decide +kernel
theorem dL_pagesByLog_2 : decode cL_pagesByLog 2 = .ok (.aload_n 0, 1) := by decide +kernel
theorem dL_pagesByLog_3 : decode cL_pagesByLog 3 = .ok (.iload_n 1, 1) := by decide +kernel
theorem dL_pagesByLog_4 : decode cL_pagesByLog 4 = .ok (.invokevirtual 136, 3) := by decide +kernel
theorem dL_pagesByLog_7 : decode cL_pagesByLog 7 = .ok (.i2l, 1) := by decide +kernel
theorem dL_pagesByLog_8 : decode cL_pagesByLog 8 = .ok (.lastore, 1) := by decide +kernel
theorem dL_pagesByLog_9 : decode cL_pagesByLog 9 = .ok (.goto 6, 3) := by decide +kernel
theorem dL_pagesByLog_12 : decode cL_pagesByLog 12 = .ok (.astore_n 3, 1) := by decide +kernel
theorem dL_pagesByLog_13 : decode cL_pagesByLog 13 = .ok (.iconst 1, 1) := by decide +kernel
theorem dL_pagesByLog_14 : decode cL_pagesByLog 14 = .ok (.ireturn, 1) := by decide +kernel
theorem dL_pagesByLog_15 : decode cL_pagesByLog 15 = .ok (.iconst 0, 1) := by decide +kernel
theorem dL_pagesByLog_16 : decode cL_pagesByLog 16 = .ok (.ireturn, 1) := by decide +kernel
set_option maxRecDepth 20000 in
theorem ggL_billOf_X6_billOf : GoodIn wsL_billOf wsX6_billOf := goodIn_ca (goodIn_r _ [6, 7, 8, 9, 10, 5, 11, 12, 13, 14, 15, 16, 17, 18, 19, 20, 21, 22, 23, 24, 25, 26, 27, 28, 29, 30] (by decide +kernel) (by decide +kernel)) (goodIn_sub (fun _ h => List.mem_cons_of_mem _ (List.mem_append_right _ h)) (by decide +kernel))
set_option maxRecDepth 20000 in
theorem gL_billOf_X6_billOf : GoodIn wsL_billOf (wsV RL 139 RX6 yX6_billOf wsX6_billOf) := goodIn_app (goodIn_of _ (by decide +kernel)) ggL_billOf_X6_billOf
theorem dL_billOf_0 : decode cL_billOf 0 = .ok (.aload_n 2, 1) := by decide +kernel
theorem dL_billOf_1 : decode cL_billOf 1 = .ok (.iconst 0, 1) := by decide +kernel
theorem dL_billOf_2 : decode cL_billOf 2 = .ok (.aload_n 0, 1) := by decide +kernel
theorem dL_billOf_3 : decode cL_billOf 3 = .ok (.iload_n 1, 1) := by decide +kernel
theorem dL_billOf_4 : decode cL_billOf 4 = .ok (.invokevirtual 139, 3) := by decide +kernel
theorem dL_billOf_7 : decode cL_billOf 7 = .ok (.lastore, 1) := by decide +kernel
theorem dL_billOf_8 : decode cL_billOf 8 = .ok (.goto 6, 3) := by decide +kernel
theorem dL_billOf_11 : decode cL_billOf 11 = .ok (.astore_n 3, 1) := by decide +kernel
theorem dL_billOf_12 : decode cL_billOf 12 = .ok (.iconst 1, 1) := by decide +kernel
theorem dL_billOf_13 : decode cL_billOf 13 = .ok (.ireturn, 1) := by decide +kernel
theorem dL_billOf_14 : decode cL_billOf 14 = .ok (.iconst 0, 1) := by decide +kernel
theorem dL_billOf_15 : decode cL_billOf 15 = .ok (.ireturn, 1) := by decide +kernel
set_option maxRecDepth 20000 in
theorem ggL_billByLog_X6_billByLog : GoodIn wsL_billByLog wsX6_billByLog := goodIn_ca (goodIn_r _ [6, 7, 8, 9, 10, 11, 12, 13, 5, 14, 15, 16, 17, 18, 19, 20, 21, 22, 23, 24, 25, 26, 27, 28, 29, 30, 31, 32, 33, 34, 35, 36, 37, 38, 39, 40, 41, 42, 43, 44, 45, 46, 47, 48, 49, 50, 51, 52, 53, 54, 55, 56, 57, 58, 59, 60, 61] (by decide +kernel) (by decide +kernel)) (goodIn_sub (fun _ h => List.mem_cons_of_mem _ (List.mem_append_right _ h)) (by decide +kernel))
set_option maxRecDepth 20000 in
theorem gL_billByLog_X6_billByLog : GoodIn wsL_billByLog (wsV RL 143 RX6 yX6_billByLog wsX6_billByLog) := goodIn_app (goodIn_of _ (by decide +kernel)) ggL_billByLog_X6_billByLog
theorem dL_billByLog_0 : decode cL_billByLog 0 = .ok (.aload_n 2, 1) := by decide +kernel
theorem dL_billByLog_1 : decode cL_billByLog 1 = .ok (.iconst 0, 1) := by decide +kernel
theorem dL_billByLog_2 : decode cL_billByLog 2 = .ok (.aload_n 0, 1) := by decide +kernel
theorem dL_billByLog_3 : decode cL_billByLog 3 = .ok (.iload_n 1, 1) := by decide +kernel
theorem dL_billByLog_4 : decode cL_billByLog 4 = .ok (.invokevirtual 143, 3) := by decide +kernel
theorem dL_billByLog_7 : decode cL_billByLog 7 = .ok (.lastore, 1) := by decide +kernel
theorem dL_billByLog_8 : decode cL_billByLog 8 = .ok (.goto 6, 3) := by decide +kernel
theorem dL_billByLog_11 : decode cL_billByLog 11 = .ok (.astore_n 3, 1) := by decide +kernel
theorem dL_billByLog_12 : decode cL_billByLog 12 = .ok (.iconst 1, 1) := by decide +kernel
theorem dL_billByLog_13 : decode cL_billByLog 13 = .ok (.ireturn, 1) := by decide +kernel
theorem dL_billByLog_14 : decode cL_billByLog 14 = .ok (.iconst 0, 1) := by decide +kernel
theorem dL_billByLog_15 : decode cL_billByLog 15 = .ok (.ireturn, 1) := by decide +kernel
set_option maxRecDepth 20000 in
theorem ggL_meanPages_X6_meanPages : GoodIn wsL_meanPages wsX6_meanPages := goodIn_ca (goodIn_r _ [6, 7, 8, 9, 10, 11, 12, 13, 14, 15, 16, 17, 18, 19, 20, 21, 22, 23, 24, 25, 26, 27, 28, 29, 30, 31, 32, 33, 34, 35, 36, 37, 38, 39, 40, 41, 42, 43, 44, 45, 46, 47, 48, 49, 50, 51, 52, 53, 54, 55] (by decide +kernel) (by decide +kernel)) (goodIn_sub (fun _ h => List.mem_cons_of_mem _ (List.mem_append_right _ h)) (by decide +kernel))
set_option maxRecDepth 20000 in
theorem gL_meanPages_X6_meanPages : GoodIn wsL_meanPages (wsV RL 146 RX6 yX6_meanPages wsX6_meanPages) := goodIn_app (goodIn_of _ (by decide +kernel)) ggL_meanPages_X6_meanPages
theorem dL_meanPages_0 : decode cL_meanPages 0 = .ok (.aload_n 1, 1) := by decide +kernel
theorem dL_meanPages_1 : decode cL_meanPages 1 = .ok (.iconst 0, 1) := by decide +kernel
theorem dL_meanPages_2 : decode cL_meanPages 2 = .ok (.aload_n 0, 1) := by decide +kernel
theorem dL_meanPages_3 : decode cL_meanPages 3 = .ok (.invokevirtual 146, 3) := by decide +kernel
theorem dL_meanPages_6 : decode cL_meanPages 6 = .ok (.dastore, 1) := by decide +kernel
theorem dL_meanPages_7 : decode cL_meanPages 7 = .ok (.goto 6, 3) := by decide +kernel
theorem dL_meanPages_10 : decode cL_meanPages 10 = .ok (.astore_n 2, 1) := by decide +kernel
theorem dL_meanPages_11 : decode cL_meanPages 11 = .ok (.iconst 1, 1) := by decide +kernel
theorem dL_meanPages_12 : decode cL_meanPages 12 = .ok (.ireturn, 1) := by decide +kernel
theorem dL_meanPages_13 : decode cL_meanPages 13 = .ok (.iconst 0, 1) := by decide +kernel
theorem dL_meanPages_14 : decode cL_meanPages 14 = .ok (.ireturn, 1) := by decide +kernel
set_option maxRecDepth 20000 in
theorem ggL_colourShare_X6_colourShare : GoodIn wsL_colourShare wsX6_colourShare := goodIn_ca (goodIn_r _ [6, 7, 8, 9, 10, 11, 12, 13, 14, 15, 16, 17, 18, 19, 20, 21, 22, 23, 24, 25, 26, 27, 28, 29, 30, 31, 32, 33, 34, 35, 36, 37] (by decide +kernel) (by decide +kernel)) (goodIn_sub (fun _ h => List.mem_cons_of_mem _ (List.mem_append_right _ h)) (by decide +kernel))
set_option maxRecDepth 20000 in
theorem gL_colourShare_X6_colourShare : GoodIn wsL_colourShare (wsV RL 152 RX6 yX6_colourShare wsX6_colourShare) := goodIn_app (goodIn_of _ (by decide +kernel)) ggL_colourShare_X6_colourShare
theorem dL_colourShare_0 : decode cL_colourShare 0 = .ok (.aload_n 1, 1) := by decide +kernel
theorem dL_colourShare_1 : decode cL_colourShare 1 = .ok (.iconst 0, 1) := by decide +kernel
theorem dL_colourShare_2 : decode cL_colourShare 2 = .ok (.aload_n 0, 1) := by decide +kernel
theorem dL_colourShare_3 : decode cL_colourShare 3 = .ok (.invokevirtual 152, 3) := by decide +kernel
theorem dL_colourShare_6 : decode cL_colourShare 6 = .ok (.f2d, 1) := by decide +kernel
theorem dL_colourShare_7 : decode cL_colourShare 7 = .ok (.dastore, 1) := by decide +kernel
theorem dL_colourShare_8 : decode cL_colourShare 8 = .ok (.goto 6, 3) := by decide +kernel
theorem dL_colourShare_11 : decode cL_colourShare 11 = .ok (.astore_n 2, 1) := by decide +kernel
theorem dL_colourShare_12 : decode cL_colourShare 12 = .ok (.iconst 1, 1) := by decide +kernel
theorem dL_colourShare_13 : decode cL_colourShare 13 = .ok (.ireturn, 1) := by decide +kernel
theorem dL_colourShare_14 : decode cL_colourShare 14 = .ok (.iconst 0, 1) := by decide +kernel
theorem dL_colourShare_15 : decode cL_colourShare 15 = .ok (.ireturn, 1) := by decide +kernel
set_option maxRecDepth 20000 in
theorem ggL_writeJob_X6_writeJob : GoodIn wsL_writeJob wsX6_writeJob := goodIn_ca (goodIn_r _ [6, 7, 8, 9, 10, 11, 12, 13, 14, 15, 16, 17, 5, 18, 19, 20, 21, 22, 23, 24, 25, 26, 27, 28, 29, 30, 31, 32, 33, 34, 35, 36, 37, 38, 39, 40, 41, 42, 43, 44, 45, 46, 47, 48, 49, 50, 51, 52, 53, 54, 55, 56, 57, 58, 59, 60, 61, 62, 63, 64, 65, 66, 67, 68, 69, 70, 71, 72, 73, 74, 75, 76, 77, 78, 79, 80, 81, 82, 83, 84, 85, 86, 87, 88, 89, 90, 91, 92, 93, 94, 95, 96, 97, 98, 99, 100, 101, 102, 103, 104, 105, 106, 107, 108, 109, 110, 111, 112, 113, 114, 115, 116, 117, 118, 119, 120, 121, 122, 123, 124, 125, 126, 127, 128, 129, 130, 131, 132, 133, 134, 135, 136, 137, 138, 139, 140, 141, 142, 143, 144, 145, 146, 147, 148, 149, 150, 151, 152, 153, 154, 155, 156, 157, 158, 159, 160, 161, 162, 163, 164, 165, 166, 167, 168, 169, 170, 171, 172, 173, 174, 175, 176, 177, 178, 179, 180, 181, 182, 183, 184, 185, 186, 187, 188, 189, 190, 191, 192, 193, 194, 195, 196, 197, 198, 199, 200, 201, 202, 203, 204, 205, 206, 207, 208, 209, 210, 211, 212, 213, 214, 215, 216, 217, 218, 219, 220, 221, 222, 223, 224, 225, 226, 227, 228, 229, 230, 231, 232, 233, 234, 235, 236, 237, 238, 239, 240, 241, 242, 243, 244, 245, 246, 247, 248, 249, 250, 251, 252, 253, 254, 255, 256, 257, 258, 259, 260, 261, 262, 263, 264, 265, 266, 267, 268, 269, 270, 271, 272, 273, 274, 275, 276, 277, 278, 279, 280, 281, 282, 283, 284, 285, 286, 287, 288, 289, 290, 291, 292, 293, 294, 295, 296, 297, 298, 299, 300, 301, 302, 303] (by decide +kernel) (by decide +kernel)) (goodIn_sub (fun _ h => List.mem_cons_of_mem _ (List.mem_append_right _ h)) (by decide +kernel))
set_option maxRecDepth 20000 in
theorem gL_writeJob_X6_writeJob : GoodIn wsL_writeJob (wsV RL 156 RX6 yX6_writeJob wsX6_writeJob) := goodIn_app (goodIn_of _ (by decide +kernel)) ggL_writeJob_X6_writeJob
theorem dL_writeJob_0 : decode cL_writeJob 0 = .ok (.aload_n 2, 1) := by decide +kernel
theorem dL_writeJob_1 : decode cL_writeJob 1 = .ok (.iconst 0, 1) := by decide +kernel
theorem dL_writeJob_2 : decode cL_writeJob 2 = .ok (.aload_n 0, 1) := by decide +kernel
theorem dL_writeJob_3 : decode cL_writeJob 3 = .ok (.iload_n 1, 1) := by decide +kernel
theorem dL_writeJob_4 : decode cL_writeJob 4 = .ok (.invokevirtual 156, 3) := by decide +kernel
theorem dL_writeJob_7 : decode cL_writeJob 7 = .ok (.i2l, 1) := by decide +kernel
theorem dL_writeJob_8 : decode cL_writeJob 8 = .ok (.lastore, 1) := by decide +kernel
theorem dL_writeJob_9 : decode cL_writeJob 9 = .ok (.goto 6, 3) := by decide +kernel
theorem dL_writeJob_12 : decode cL_writeJob 12 = .ok (.astore_n 3, 1) := by decide +kernel
theorem dL_writeJob_13 : decode cL_writeJob 13 = .ok (.iconst 1, 1) := by decide +kernel
theorem dL_writeJob_14 : decode cL_writeJob 14 = .ok (.ireturn, 1) := by decide +kernel
theorem dL_writeJob_15 : decode cL_writeJob 15 = .ok (.iconst 0, 1) := by decide +kernel
theorem dL_writeJob_16 : decode cL_writeJob 16 = .ok (.ireturn, 1) := by decide +kernel
set_option maxRecDepth 20000 in
theorem ggL_lineAt_X6_lineAt : GoodIn wsL_lineAt wsX6_lineAt := goodIn_ca (goodIn_r _ [6, 7, 8, 9, 10, 11, 12, 13, 14, 15, 16, 17, 18, 19, 20, 21, 22, 23, 24, 25, 26, 27, 28, 29, 30, 31, 32, 33, 34, 35, 36, 37, 38, 39, 40, 41, 42, 43, 44, 45, 46, 47, 48, 49, 50, 51, 52, 53, 54, 55, 56, 57, 58, 59, 60, 61, 62, 63, 64, 65, 66, 67, 68, 69, 70] (by decide +kernel) (by decide +kernel)) (goodIn_sub (fun _ h => List.mem_cons_of_mem _ (List.mem_append_right _ h)) (by decide +kernel))
set_option maxRecDepth 20000 in
theorem gL_lineAt_X6_lineAt : GoodIn wsL_lineAt (wsV RL 159 RX6 yX6_lineAt wsX6_lineAt) := goodIn_app (goodIn_of _ (by decide +kernel)) ggL_lineAt_X6_lineAt
theorem dL_lineAt_0 : decode cL_lineAt 0 = .ok (.aload_n 2, 1) := by decide +kernel
theorem dL_lineAt_1 : decode cL_lineAt 1 = .ok (.iconst 0, 1) := by decide +kernel
theorem dL_lineAt_2 : decode cL_lineAt 2 = .ok (.aload_n 0, 1) := by decide +kernel
theorem dL_lineAt_3 : decode cL_lineAt 3 = .ok (.iload_n 1, 1) := by decide +kernel
theorem dL_lineAt_4 : decode cL_lineAt 4 = .ok (.invokevirtual 159, 3) := by decide +kernel
theorem dL_lineAt_7 : decode cL_lineAt 7 = .ok (.i2l, 1) := by decide +kernel
theorem dL_lineAt_8 : decode cL_lineAt 8 = .ok (.lastore, 1) := by decide +kernel
theorem dL_lineAt_9 : decode cL_lineAt 9 = .ok (.goto 6, 3) := by decide +kernel
theorem dL_lineAt_12 : decode cL_lineAt 12 = .ok (.astore_n 3, 1) := by decide +kernel
theorem dL_lineAt_13 : decode cL_lineAt 13 = .ok (.iconst 1, 1) := by decide +kernel
theorem dL_lineAt_14 : decode cL_lineAt 14 = .ok (.ireturn, 1) := by decide +kernel
theorem dL_lineAt_15 : decode cL_lineAt 15 = .ok (.iconst 0, 1) := by decide +kernel
theorem dL_lineAt_16 : decode cL_lineAt 16 = .ok (.ireturn, 1) := by decide +kernel
